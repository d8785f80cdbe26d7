/-! the reference: its calls -/
set_option maxHeartbeats 4000000 in
set_option maxRecDepth 100000 in
/-- c_isOpen -/
theorem c_isOpen (l : Launch) (D : va_G) (A : Nat → Prop) (ad : Nat → Nat) (w : kWd) (S : St) (hM : MW D S ad w w) (t : Int32) (nT : Nat) (hT : S 12 0 = nI nT) (hT6 : nT ≤ 60)  : Met l yX6_isOpen wsX6_isOpen ({ frames := 2, cells := 0, slots := 0, locals := 43 }) (kPc D A [.ref (ad 2000), .int t] ad w) (kQi D A (fun v ad' w' => v = bI (opK S t = 0) ∧ ad' = ad ∧ MW D (sS S 17 (opK S t)) ad w w')) 0 0 A := by
  refine Met.ofW (cc := cX6_isOpen) (maxL := 2) (ret := (some (.boolean))) (by decide) rfl ?_
  intro p e s m args below meth c s₁ B hml hv
  obtain ⟨rfl, hE, hW0, hI0, hA⟩ := hv
  have hx := B.exec
  have hb := B.bytes
  have hr := B.returns
  have hts := atoms_spec (ws := wsX6_isOpen) B.pre
  have hown : s.vm.findClass RX6 = some m.cls := findClass_of_methodNamed B.named
  have hlocks := B.notSynchronized
  have hW : kS D A s.heap ad w s.heap [] := ⟨hW0, hI0, va_S.rf, hA⟩
  have hl := lv_entry ([.ref (ad 2000), .int t]) (n := 2) (Nat.le_of_ble_eq_true rfl)
  rw [lg_entry_eq]
  generalize (lg_sl ([.ref (ad 2000), .int t]) ++ List.replicate (2 - (lg_sl ([.ref (ad 2000), .int t])).length) Slot.unset).toArray = ls at hl ⊢
  have hl : lv_has ls 2 [(0, .ref (ad 2000)), (1, .int t)] := hl
  refine lv_aload_n hx hb dX6_isOpen_0 rfl (lv_at hl 0 rfl) ?_
  refine lv_aload_n hx hb dX6_isOpen_1 rfl (lv_at hl 0 rfl) ?_
  refine lv_iload_n hx hb dX6_isOpen_2 rfl (lv_at hl 1 rfl) ?_
  refine W_joinH (D := D) (A := A) (w := w) (ad := ad) (P := fun v => v = opK S t) (pj := 26) (rj := [.ref (ad 2000)]) (lj := ls) (fun v H1 locs hv hW => ?_) (fun J26 => ?_)
  · subst hv
    refine kk_i (va_runV (As := [.int (opK S t)]) (rest := []) ⟨hx, hb, hml, hown, hts⟩ (c_can l D A ad w (S) hM.re (opK S t)) (cwV 1 hts gX6_isOpen_X6_can rfl rfl rfl (by decide +kernel) ⟨Nat.le_of_ble_eq_true rfl, Nat.le_of_ble_eq_true rfl⟩) (kV hE hW hM.o rfl _) rfl rfl hl.1 rfl (lv_room (Nat.le_of_ble_eq_true rfl)) dX6_isOpen_26 ⟨Nat.le_of_ble_eq_true rfl, Nat.le_of_ble_eq_true rfl⟩) hW (fun r5 ad2 w3 H6 locs hp4 hW => ?_)
    obtain ⟨e7, e8, e9⟩ := hp4
    rw [e8] at hW
    have hM := hM.tr e9
    subst e7
    exact ke_z hx hb hr hlocks (Nat.le_of_ble_eq_true rfl) (Nat.le_of_ble_eq_true rfl) dX6_isOpen_29 (bI_01) hW (⟨rfl, rfl, hM⟩)
  · refine kk_i (va_runV (As := [.int t]) (rest := [.ref (ad 2000)]) ⟨hx, hb, hml, hown, hts⟩ (c_isTransaction l D A ad w (S) hM.re t) (cwV 1 hts gX6_isOpen_X6_isTransaction rfl rfl rfl (by decide +kernel) ⟨Nat.le_of_ble_eq_true rfl, Nat.le_of_ble_eq_true rfl⟩) (kV hE hW hM.o rfl _) rfl rfl hl.1 rfl (lv_room (Nat.le_of_ble_eq_true rfl)) dX6_isOpen_3 ⟨Nat.le_of_ble_eq_true rfl, Nat.le_of_ble_eq_true rfl⟩) hW (fun r13 ad10 w11 H14 locs hp12 hW => ?_)
    obtain ⟨e15, e16, e17⟩ := hp12
    rw [e16, e17] at hW
    subst e15
    refine lv_if_ne (tgt := 13) hx hb dX6_isOpen_6 (by decide) (fun c18 => ?_) (fun c18 => ?_)
    · have hv6 : vp_in t 60 := by
        obtain ⟨j, h1, rfl⟩ := inP_T hT6 (by rw [← hT]; exact bI_t c18)
        exact vp_in_nI (by omega) (by omega)
      refine lv_aload_n hx hb dX6_isOpen_13 rfl (lv_at hl 0 rfl) ?_
      refine lv_iload_n hx hb dX6_isOpen_14 rfl (lv_at hl 1 rfl) ?_
      refine kk_i (va_runV (As := [.int t]) (rest := [.ref (ad 2000)]) ⟨hx, hb, hml, hown, hts⟩ (c_isActive l D A ad w (S) hM.re t hv6) (cwV 1 hts gX6_isOpen_X6_isActive rfl rfl rfl (by decide +kernel) ⟨Nat.le_of_ble_eq_true rfl, Nat.le_of_ble_eq_true rfl⟩) (kV hE hW hM.o rfl _) rfl rfl hl.1 rfl (lv_room (Nat.le_of_ble_eq_true rfl)) dX6_isOpen_15 ⟨Nat.le_of_ble_eq_true rfl, Nat.le_of_ble_eq_true rfl⟩) hW (fun r22 ad19 w20 H23 locs hp21 hW => ?_)
      obtain ⟨e24, e25, e26⟩ := hp21
      rw [e25, e26] at hW
      subst e24
      refine lv_if_eq (tgt := 25) hx hb dX6_isOpen_18 (by decide) (fun c27 => ?_) (fun c27 => ?_)
      · refine lv_iconst (v := 2) hx hb dX6_isOpen_25 (by decide) ?_
        exact J26 _ _ _ (((if_pos (bI_t c18)).trans (if_neg (bI_f c27))).symm) hW
      · refine lv_iconst (v := 0) hx hb dX6_isOpen_21 (by decide) ?_
        refine lv_goto (tgt := 26) hx hb dX6_isOpen_22 (by decide) ?_
        exact J26 _ _ _ (((if_pos (bI_t c18)).trans (if_pos (bI_t c27))).symm) hW
    · refine lv_iconst (v := 1) hx hb dX6_isOpen_9 (by decide) ?_
      refine lv_goto (tgt := 26) hx hb dX6_isOpen_10 (by decide) ?_
      exact J26 _ _ _ ((if_neg (bI_f c18)).symm) hW

set_option maxHeartbeats 4000000 in
set_option maxRecDepth 100000 in
/-- c_setSpace -/
theorem c_setSpace (l : Launch) (D : va_G) (A : Nat → Prop) (ad : Nat → Nat) (w : kWd) (S : St) (hM : MW D S ad w w) (z : Int32) : Met l yX6_setSpace wsX6_setSpace ({ frames := 1, cells := 0, slots := 0, locals := 22 }) (kPc D A [.ref (ad 2000), .int z] ad w) (kQi D A (fun v ad' w' => v = ssR S z ∧ ad' = ad ∧ MW D (ssN S z) ad w w')) 0 0 A := by
  refine Met.ofW (cc := cX6_setSpace) (maxL := 3) (ret := (some (.int))) (by decide) rfl ?_
  intro p e s m args below meth c s₁ B hml hv
  obtain ⟨rfl, hE, hW0, hI0, hA⟩ := hv
  have hx := B.exec
  have hb := B.bytes
  have hr := B.returns
  have hts := atoms_spec (ws := wsX6_setSpace) B.pre
  have hown : s.vm.findClass RX6 = some m.cls := findClass_of_methodNamed B.named
  have hlocks := B.notSynchronized
  have hiRX6 : ∀ w ∈ wsX60, w ∈ wsX6_setSpace := by decide +kernel
  have hW : kS D A s.heap ad w s.heap [] := ⟨hW0, hI0, va_S.rf, hA⟩
  have hl := lv_entry ([.ref (ad 2000), .int z]) (n := 3) (Nat.le_of_ble_eq_true rfl)
  rw [lg_entry_eq]
  generalize (lg_sl ([.ref (ad 2000), .int z]) ++ List.replicate (3 - (lg_sl ([.ref (ad 2000), .int z])).length) Slot.unset).toArray = ls at hl ⊢
  have hl : lv_has ls 3 [(0, .ref (ad 2000)), (1, .int z)] := hl
  refine W_joinH (D := D) (A := A) (w := w) (ad := ad) (P := fun v => v = ssK S z) (pj := 33) (rj := [.ref (ad 2000)]) (lj := ls) (fun v H1 locs hv hW => ?_) (fun J33 => ?_)
  · subst hv
    refine kk_i (va_runV (As := [.int (ssK S z)]) (rest := []) ⟨hx, hb, hml, hown, hts⟩ (c_can l D A ad w (S) hM.re (ssK S z)) (cwV 1 hts gX6_setSpace_X6_can rfl rfl rfl (by decide +kernel) ⟨Nat.le_of_ble_eq_true rfl, Nat.le_of_ble_eq_true rfl⟩) (kV hE hW hM.o rfl _) rfl rfl hl.1 rfl (lv_room (Nat.le_of_ble_eq_true rfl)) dX6_setSpace_33 ⟨Nat.le_of_ble_eq_true rfl, Nat.le_of_ble_eq_true rfl⟩) hW (fun r5 ad2 w3 H6 locs hp4 hW => ?_)
    obtain ⟨e7, e8, e9⟩ := hp4
    rw [e8] at hW
    have hM := hM.tr e9
    subst e7
    refine lv_if_ne (tgt := 41) hx hb dX6_setSpace_36 (by decide) (fun c10 => ?_) (fun c10 => ?_)
    · refine lv_aload_n hx hb dX6_setSpace_41 rfl (lv_at hl 0 rfl) ?_
      refine kk_get hx hb hts hown hE hW hM.o rfl hiRX6 1 (by decide) (hts (.fieldLink RX6 13 "UndoCellarModel" "size" "I") (by decide +kernel)) (fun _ h9 => h9) rfl dX6_setSpace_42 ?_
      refine lv_istore_n (lv' := [(2, .int ((sS S 17 (ssK S z)) 10 0)), (0, .ref (ad 2000)), (1, .int z)]) hx hb dX6_setSpace_45 rfl hl (by decide) rfl (fun ls hl => ?_)
      refine lv_aload_n hx hb dX6_setSpace_46 rfl (lv_at hl 1 rfl) ?_
      refine lv_iload_n hx hb dX6_setSpace_47 rfl (lv_at hl 2 rfl) ?_
      refine kk_put hx hb hts hown hE hW hM.o rfl hiRX6 tyX6 tyX6_ok nmX6 1 (by decide) (hts (.fieldLink RX6 13 "UndoCellarModel" "size" "I") (by decide +kernel)) (fun _ h9 => h9) rfl (ty := tyX6 1) (tyX6_ok 1 (by decide)) rfl rfl (Nat.le_of_ble_eq_true rfl) dX6_setSpace_48 (fun H13 locs w11 e12 hW => ?_)
      have hM := hM.s10 e12
      refine lv_iload_n hx hb dX6_setSpace_51 rfl (lv_at hl 0 rfl) ?_
      exact ke_i hx hb hr hlocks (Nat.le_of_ble_eq_true rfl) (Nat.le_of_ble_eq_true rfl) dX6_setSpace_52 hW (⟨(if_pos (bI_t c10)).symm, rfl, by rw [show ssN S z = _ from if_pos (bI_t c10)]; exact hM⟩)
    · refine lv_iconst (v := 0) hx hb dX6_setSpace_39 (by decide) ?_
      exact ke_i hx hb hr hlocks (Nat.le_of_ble_eq_true rfl) (Nat.le_of_ble_eq_true rfl) dX6_setSpace_40 hW (⟨(if_neg (bI_f c10)).symm, rfl, by rw [show ssN S z = _ from if_neg (bI_f c10)]; exact hM⟩)
  · refine lv_aload_n hx hb dX6_setSpace_0 rfl (lv_at hl 0 rfl) ?_
    refine lv_iload_n hx hb dX6_setSpace_1 rfl (lv_at hl 1 rfl) ?_
    refine lv_iconst (v := 1) hx hb dX6_setSpace_2 (by decide) ?_
    refine lv_bipush (v := 30) hx hb dX6_setSpace_3 (by decide) ?_
    refine kk_i (va_runS (As := [.int z, .int 1, .int 30]) (rest := [.ref (ad 2000)]) ⟨hx, hb, hml, hown, hts⟩ (c_isIn l D A ad w z 1 30) (va_cwS 3 hts gX6_setSpace_X6_isIn rfl rfl rfl (by decide +kernel) ⟨Nat.le_of_ble_eq_true rfl, Nat.le_of_ble_eq_true rfl⟩) (kSt hE hW _) rfl rfl hl.1 rfl (lv_room (Nat.le_of_ble_eq_true rfl)) dX6_setSpace_5 ⟨Nat.le_of_ble_eq_true rfl, Nat.le_of_ble_eq_true rfl⟩) hW (fun r17 ad14 w15 H18 locs hp16 hW => ?_)
    obtain ⟨e19, e20, e21⟩ := hp16
    rw [e20, e21] at hW
    subst e19
    refine lv_if_ne (tgt := 15) hx hb dX6_setSpace_8 (by decide) (fun c22 => ?_) (fun c22 => ?_)
    · refine lv_aload_n hx hb dX6_setSpace_15 rfl (lv_at hl 0 rfl) ?_
      refine kk_get hx hb hts hown hE hW hM.o rfl hiRX6 7 (by decide) (hts (.fieldLink RX6 55 "UndoCellarModel" "changes" "I") (by decide +kernel)) (fun _ h9 => h9) rfl dX6_setSpace_16 ?_
      refine lv_aload_n hx hb dX6_setSpace_19 rfl (lv_at hl 0 rfl) ?_
      refine kk_get hx hb hts hown hE hW hM.o rfl hiRX6 12 (by decide) (hts (.fieldLink RX6 58 "UndoCellarModel" "dropped" "I") (by decide +kernel)) (fun _ h9 => h9) rfl dX6_setSpace_20 ?_
      refine lv_isub hx hb dX6_setSpace_23 ?_
      refine lv_iload_n hx hb dX6_setSpace_24 rfl (lv_at hl 1 rfl) ?_
      refine lv_icmp_le (tgt := 32) hx hb dX6_setSpace_25 (by decide) (fun c23 => ?_) (fun c23 => ?_)
      · refine lv_iconst (v := 0) hx hb dX6_setSpace_32 (by decide) ?_
        exact J33 _ _ _ (((if_pos (bI_t c22)).trans (if_pos c23)).symm) hW
      · refine lv_iconst (v := 2) hx hb dX6_setSpace_28 (by decide) ?_
        refine lv_goto (tgt := 33) hx hb dX6_setSpace_29 (by decide) ?_
        exact J33 _ _ _ (((if_pos (bI_t c22)).trans (if_neg c23)).symm) hW
    · refine lv_iconst (v := 1) hx hb dX6_setSpace_11 (by decide) ?_
      refine lv_goto (tgt := 33) hx hb dX6_setSpace_12 (by decide) ?_
      exact J33 _ _ _ ((if_neg (bI_f c22)).symm) hW

set_option maxHeartbeats 4000000 in
set_option maxRecDepth 100000 in
/-- c_begin -/
theorem c_begin (l : Launch) (D : va_G) (A : Nat → Prop) (ad : Nat → Nat) (w : kWd) (S : St) (hM : MW D S ad w w) (nT : Nat) (hT : S 12 0 = nI nT) (hT6 : nT ≤ 60)  : Met l yX6_begin wsX6_begin ({ frames := 1, cells := 0, slots := 0, locals := 21 }) (kPc D A [.ref (ad 2000)] ad w) (kQi D A (fun v ad' w' => v = bgR S ∧ ad' = ad ∧ MW D (bgN S) ad w w')) 0 0 A := by
  refine Met.ofW (cc := cX6_begin) (maxL := 1) (ret := (some (.int))) (by decide) rfl ?_
  intro p e s m args below meth c s₁ B hml hv
  obtain ⟨rfl, hE, hW0, hI0, hA⟩ := hv
  have hx := B.exec
  have hb := B.bytes
  have hr := B.returns
  have hts := atoms_spec (ws := wsX6_begin) B.pre
  have hown : s.vm.findClass RX6 = some m.cls := findClass_of_methodNamed B.named
  have hlocks := B.notSynchronized
  have hiRX6 : ∀ w ∈ wsX60, w ∈ wsX6_begin := by decide +kernel
  have hW : kS D A s.heap ad w s.heap [] := ⟨hW0, hI0, va_S.rf, hA⟩
  have hl := lv_entry ([.ref (ad 2000)]) (n := 1) (Nat.le_of_ble_eq_true rfl)
  rw [lg_entry_eq]
  generalize (lg_sl ([.ref (ad 2000)]) ++ List.replicate (1 - (lg_sl ([.ref (ad 2000)])).length) Slot.unset).toArray = ls at hl ⊢
  have hl : lv_has ls 1 [(0, .ref (ad 2000))] := hl
  refine W_join (P := fun v => v = bgK S) (pj := 15) (rj := [.ref (ad 2000)]) (lj := ls) (fun v hv => ?_) (fun J15 => ?_)
  · subst hv
    refine kk_i (va_runV (As := [.int (bgK S)]) (rest := []) ⟨hx, hb, hml, hown, hts⟩ (c_can l D A ad w (S) hM.re (bgK S)) (cwV 1 hts gX6_begin_X6_can rfl rfl rfl (by decide +kernel) ⟨Nat.le_of_ble_eq_true rfl, Nat.le_of_ble_eq_true rfl⟩) (kV hE hW hM.o rfl _) rfl rfl hl.1 rfl (lv_room (Nat.le_of_ble_eq_true rfl)) dX6_begin_15 ⟨Nat.le_of_ble_eq_true rfl, Nat.le_of_ble_eq_true rfl⟩) hW (fun r4 ad1 w2 H5 locs hp3 hW => ?_)
    obtain ⟨e6, e7, e8⟩ := hp3
    rw [e7] at hW
    have hM := hM.tr e8
    subst e6
    refine lv_if_ne (tgt := 23) hx hb dX6_begin_18 (by decide) (fun c9 => ?_) (fun c9 => ?_)
    · have h60 : ¬ S 12 0 = 60 := fun q => by
        have h9 := bI_t c9
        rw [show bgK S = 1 from if_pos q] at h9
        exact absurd h9 (by decide)
      have hv6 : vp_in (S 12 0) 60 := by
        rw [hT]
        refine vp_in_nI ?_ (by omega)
        rcases Nat.lt_or_ge nT 60 with h | h
        · exact h
        · exact absurd (by rw [hT, show nT = 60 by omega]; rfl) h60
      refine lv_aload_n hx hb dX6_begin_23 rfl (lv_at hl 0 rfl) ?_
      refine kk_get hx hb hts hown hE hW hM.o rfl hiRX6 5 (by decide) (hts (.fieldLink RX6 20 "UndoCellarModel" "asOf" "[I") (by decide +kernel)) (fun _ h9 => h9) rfl dX6_begin_24 ?_
      refine lv_aload_n hx hb dX6_begin_27 rfl (lv_at hl 0 rfl) ?_
      refine kk_get hx hb hts hown hE hW hM.o rfl hiRX6 3 (by decide) (hts (.fieldLink RX6 52 "UndoCellarModel" "transactions" "I") (by decide +kernel)) (fun _ h9 => h9) rfl dX6_begin_28 ?_
      refine lv_aload_n hx hb dX6_begin_31 rfl (lv_at hl 0 rfl) ?_
      refine kk_get hx hb hts hown hE hW hM.o rfl hiRX6 2 (by decide) (hts (.fieldLink RX6 65 "UndoCellarModel" "moment" "I") (by decide +kernel)) (fun _ h9 => h9) rfl dX6_begin_32 ?_
      refine kk_iast hx hb hE hW hM.a2 hv6 dX6_begin_35 (fun H12 locs w10 e11 hW => ?_)
      have hM := hM.t2 e11
      refine lv_aload_n hx hb dX6_begin_36 rfl (lv_at hl 0 rfl) ?_
      refine lv_dup hx hb dX6_begin_37 rfl ?_
      refine kk_get hx hb hts hown hE hW (show w10 2000 = some (.inr (7, [.ref (ad 2001), .int ((sS S 17 (bgK S)) 10 0), .int ((sS S 17 (bgK S)) 11 0), .int ((sS S 17 (bgK S)) 12 0), .ref (ad 2002), .ref (ad 2003), .ref (ad 2004), .int ((sS S 17 (bgK S)) 13 0), .ref (ad 2005), .ref (ad 2006), .ref (ad 2007), .ref (ad 2008), .int ((sS S 17 (bgK S)) 14 0), .ref (ad 2009), .ref (ad 2010), .int ((sS S 17 (bgK S)) 15 0), .int ((sS S 17 (bgK S)) 16 0), .int ((sS S 17 (bgK S)) 17 0)])) from hM.o) rfl hiRX6 3 (by decide) (hts (.fieldLink RX6 52 "UndoCellarModel" "transactions" "I") (by decide +kernel)) (fun _ h9 => h9) rfl dX6_begin_38 ?_
      refine lv_iconst (v := 1) hx hb dX6_begin_41 (by decide) ?_
      refine lv_iadd hx hb dX6_begin_42 ?_
      refine kk_put hx hb hts hown hE hW (show w10 2000 = some (.inr (7, [.ref (ad 2001), .int ((sS S 17 (bgK S)) 10 0), .int ((sS S 17 (bgK S)) 11 0), .int ((sS S 17 (bgK S)) 12 0), .ref (ad 2002), .ref (ad 2003), .ref (ad 2004), .int ((sS S 17 (bgK S)) 13 0), .ref (ad 2005), .ref (ad 2006), .ref (ad 2007), .ref (ad 2008), .int ((sS S 17 (bgK S)) 14 0), .ref (ad 2009), .ref (ad 2010), .int ((sS S 17 (bgK S)) 15 0), .int ((sS S 17 (bgK S)) 16 0), .int ((sS S 17 (bgK S)) 17 0)])) from hM.o) rfl hiRX6 tyX6 tyX6_ok nmX6 3 (by decide) (hts (.fieldLink RX6 52 "UndoCellarModel" "transactions" "I") (by decide +kernel)) (fun _ h9 => h9) rfl (ty := tyX6 3) (tyX6_ok 3 (by decide)) rfl rfl (Nat.le_of_ble_eq_true rfl) dX6_begin_43 (fun H15 locs w13 e14 hW => ?_)
      have hM := hM.s12 e14
      refine lv_aload_n hx hb dX6_begin_46 rfl (lv_at hl 0 rfl) ?_
      refine kk_get hx hb hts hown hE hW (show w13 2000 = some (.inr (7, [.ref (ad 2001), .int ((sS S 17 (bgK S)) 10 0), .int ((sS S 17 (bgK S)) 11 0), .int ((((sS S 17 (bgK S)) 12 0) + 1)), .ref (ad 2002), .ref (ad 2003), .ref (ad 2004), .int ((sS S 17 (bgK S)) 13 0), .ref (ad 2005), .ref (ad 2006), .ref (ad 2007), .ref (ad 2008), .int ((sS S 17 (bgK S)) 14 0), .ref (ad 2009), .ref (ad 2010), .int ((sS S 17 (bgK S)) 15 0), .int ((sS S 17 (bgK S)) 16 0), .int ((sS S 17 (bgK S)) 17 0)])) from hM.o) rfl hiRX6 3 (by decide) (hts (.fieldLink RX6 52 "UndoCellarModel" "transactions" "I") (by decide +kernel)) (fun _ h9 => h9) rfl dX6_begin_47 ?_
      refine lv_iconst (v := 1) hx hb dX6_begin_50 (by decide) ?_
      refine lv_isub hx hb dX6_begin_51 ?_
      exact ke_i hx hb hr hlocks (Nat.le_of_ble_eq_true rfl) (Nat.le_of_ble_eq_true rfl) dX6_begin_52 hW (⟨(if_pos (bI_t c9)).symm, rfl, by rw [show bgN S = _ from if_pos (bI_t c9)]; exact hM⟩)
    · refine lv_iconst (v := 0) hx hb dX6_begin_21 (by decide) ?_
      exact ke_i hx hb hr hlocks (Nat.le_of_ble_eq_true rfl) (Nat.le_of_ble_eq_true rfl) dX6_begin_22 hW (⟨(if_neg (bI_f c9)).symm, rfl, by rw [show bgN S = _ from if_neg (bI_f c9)]; exact hM⟩)
  · refine lv_aload_n hx hb dX6_begin_0 rfl (lv_at hl 0 rfl) ?_
    refine lv_aload_n hx hb dX6_begin_1 rfl (lv_at hl 0 rfl) ?_
    refine kk_get hx hb hts hown hE hW hM.o rfl hiRX6 3 (by decide) (hts (.fieldLink RX6 52 "UndoCellarModel" "transactions" "I") (by decide +kernel)) (fun _ h9 => h9) rfl dX6_begin_2 ?_
    refine lv_bipush (v := 60) hx hb dX6_begin_5 (by decide) ?_
    refine lv_icmp_ne (tgt := 14) hx hb dX6_begin_7 (by decide) (fun c16 => ?_) (fun c16 => ?_)
    · refine lv_iconst (v := 0) hx hb dX6_begin_14 (by decide) ?_
      exact J15 _ ((if_neg c16).symm)
    · refine lv_iconst (v := 1) hx hb dX6_begin_10 (by decide) ?_
      refine lv_goto (tgt := 15) hx hb dX6_begin_11 (by decide) ?_
      exact J15 _ ((if_pos c16).symm)

set_option maxHeartbeats 4000000 in
set_option maxRecDepth 100000 in
/-- c_save -/
theorem c_save (l : Launch) (D : va_G) (A : Nat → Prop) (ad : Nat → Nat) (w : kWd) (S : St) (hM : MW D S ad w w) (t : Int32) (nT : Nat) (hT : S 12 0 = nI nT) (hT6 : nT ≤ 60) (nC : Nat) (hC : S 13 0 = nI nC) (hn : nC ≤ 2000)  : Met l yX6_save wsX6_save ({ frames := 3, cells := 0, slots := 0, locals := 64 }) (kPc D A [.ref (ad 2000), .int t] ad w) (kQi D A (fun v ad' w' => v = saR S t ∧ ad' = ad ∧ MW D (sS S 17 (opK S t)) ad w w')) 0 0 A := by
  refine Met.ofW (cc := cX6_save) (maxL := 2) (ret := (some (.int))) (by decide) rfl ?_
  intro p e s m args below meth c s₁ B hml hv
  obtain ⟨rfl, hE, hW0, hI0, hA⟩ := hv
  have hx := B.exec
  have hb := B.bytes
  have hr := B.returns
  have hts := atoms_spec (ws := wsX6_save) B.pre
  have hown : s.vm.findClass RX6 = some m.cls := findClass_of_methodNamed B.named
  have hlocks := B.notSynchronized
  have hW : kS D A s.heap ad w s.heap [] := ⟨hW0, hI0, va_S.rf, hA⟩
  have hl := lv_entry ([.ref (ad 2000), .int t]) (n := 2) (Nat.le_of_ble_eq_true rfl)
  rw [lg_entry_eq]
  generalize (lg_sl ([.ref (ad 2000), .int t]) ++ List.replicate (2 - (lg_sl ([.ref (ad 2000), .int t])).length) Slot.unset).toArray = ls at hl ⊢
  have hl : lv_has ls 2 [(0, .ref (ad 2000)), (1, .int t)] := hl
  refine lv_aload_n hx hb dX6_save_0 rfl (lv_at hl 0 rfl) ?_
  refine lv_iload_n hx hb dX6_save_1 rfl (lv_at hl 1 rfl) ?_
  refine kk_i (va_runV (As := [.int t]) (rest := []) ⟨hx, hb, hml, hown, hts⟩ (c_isOpen l D A ad w (S) hM.re t nT hT hT6) (cwV 1 hts gX6_save_X6_isOpen rfl rfl rfl (by decide +kernel) ⟨Nat.le_of_ble_eq_true rfl, Nat.le_of_ble_eq_true rfl⟩) (kV hE hW hM.o rfl _) rfl rfl hl.1 rfl (lv_room (Nat.le_of_ble_eq_true rfl)) dX6_save_2 ⟨Nat.le_of_ble_eq_true rfl, Nat.le_of_ble_eq_true rfl⟩) hW (fun r4 ad1 w2 H5 locs hp3 hW => ?_)
  obtain ⟨e6, e7, e8⟩ := hp3
  rw [e7] at hW
  have hM := hM.tr e8
  subst e6
  refine lv_if_eq (tgt := 16) hx hb dX6_save_5 (by decide) (fun c9 => ?_) (fun c9 => ?_)
  · refine lv_iconst (v := 0) hx hb dX6_save_16 (by decide) ?_
    exact ke_i hx hb hr hlocks (Nat.le_of_ble_eq_true rfl) (Nat.le_of_ble_eq_true rfl) dX6_save_17 hW (⟨(if_neg (bI_f c9)).symm, rfl, hM⟩)
  · refine lv_aload_n hx hb dX6_save_8 rfl (lv_at hl 0 rfl) ?_
    refine lv_iload_n hx hb dX6_save_9 rfl (lv_at hl 1 rfl) ?_
    refine kk_i (va_runV (As := [.int t]) (rest := []) ⟨hx, hb, hml, hown, hts⟩ (c_standing l D A ad w2 ((sS S 17 (opK S t))) hM.re t nC hC hn) (cwV 1 hts gX6_save_X6_standing rfl rfl rfl (by decide +kernel) ⟨Nat.le_of_ble_eq_true rfl, Nat.le_of_ble_eq_true rfl⟩) (kV hE hW hM.o rfl _) rfl rfl hl.1 rfl (lv_room (Nat.le_of_ble_eq_true rfl)) dX6_save_10 ⟨Nat.le_of_ble_eq_true rfl, Nat.le_of_ble_eq_true rfl⟩) hW (fun r13 ad10 w11 H14 locs hp12 hW => ?_)
    obtain ⟨e15, e16, e17⟩ := hp12
    rw [e16, e17] at hW
    subst e15
    refine lv_goto (tgt := 17) hx hb dX6_save_13 (by decide) ?_
    exact ke_i hx hb hr hlocks (Nat.le_of_ble_eq_true rfl) (Nat.le_of_ble_eq_true rfl) dX6_save_17 hW (⟨(if_pos (bI_t c9)).symm, rfl, hM⟩)

set_option maxHeartbeats 4000000 in
set_option maxRecDepth 100000 in
/-- c_undoTo -/
theorem c_undoTo (l : Launch) (D : va_G) (A : Nat → Prop) (ad : Nat → Nat) (w : kWd) (S : St) (hM : MW D S ad w w) (t k : Int32) (nT : Nat) (hT : S 12 0 = nI nT) (hT6 : nT ≤ 60) (nC : Nat) (hC : S 13 0 = nI nC) (hn : nC ≤ 2000) (hro : ∀ k, k < nC → vp_in (S 5 k) 12)  : Met l yX6_undoTo wsX6_undoTo ({ frames := 3, cells := 0, slots := 0, locals := 64 }) (kPc D A [.ref (ad 2000), .int t, .int k] ad w) (kQi D A (fun v ad' w' => v = utR S t k ∧ ad' = ad ∧ MW D (utN S t k) ad w w')) 0 0 A := by
  refine Met.ofW (cc := cX6_undoTo) (maxL := 4) (ret := (some (.int))) (by decide) rfl ?_
  intro p e s m args below meth c s₁ B hml hv
  obtain ⟨rfl, hE, hW0, hI0, hA⟩ := hv
  have hx := B.exec
  have hb := B.bytes
  have hr := B.returns
  have hts := atoms_spec (ws := wsX6_undoTo) B.pre
  have hown : s.vm.findClass RX6 = some m.cls := findClass_of_methodNamed B.named
  have hlocks := B.notSynchronized
  have hW : kS D A s.heap ad w s.heap [] := ⟨hW0, hI0, va_S.rf, hA⟩
  have hl := lv_entry ([.ref (ad 2000), .int t, .int k]) (n := 4) (Nat.le_of_ble_eq_true rfl)
  rw [lg_entry_eq]
  generalize (lg_sl ([.ref (ad 2000), .int t, .int k]) ++ List.replicate (4 - (lg_sl ([.ref (ad 2000), .int t, .int k])).length) Slot.unset).toArray = ls at hl ⊢
  have hl : lv_has ls 4 [(0, .ref (ad 2000)), (1, .int t), (2, .int k)] := hl
  refine lv_aload_n hx hb dX6_undoTo_0 rfl (lv_at hl 0 rfl) ?_
  refine lv_iload_n hx hb dX6_undoTo_1 rfl (lv_at hl 1 rfl) ?_
  refine kk_i (va_runV (As := [.int t]) (rest := []) ⟨hx, hb, hml, hown, hts⟩ (c_isOpen l D A ad w (S) hM.re t nT hT hT6) (cwV 1 hts gX6_undoTo_X6_isOpen rfl rfl rfl (by decide +kernel) ⟨Nat.le_of_ble_eq_true rfl, Nat.le_of_ble_eq_true rfl⟩) (kV hE hW hM.o rfl _) rfl rfl hl.1 rfl (lv_room (Nat.le_of_ble_eq_true rfl)) dX6_undoTo_2 ⟨Nat.le_of_ble_eq_true rfl, Nat.le_of_ble_eq_true rfl⟩) hW (fun r4 ad1 w2 H5 locs hp3 hW => ?_)
  obtain ⟨e6, e7, e8⟩ := hp3
  rw [e7] at hW
  have hM := hM.tr e8
  subst e6
  refine lv_if_ne (tgt := 10) hx hb dX6_undoTo_5 (by decide) (fun c9 => ?_) (fun c9 => ?_)
  · have ho := bI_t c9
    refine lv_aload_n hx hb dX6_undoTo_10 rfl (lv_at hl 0 rfl) ?_
    refine lv_iload_n hx hb dX6_undoTo_11 rfl (lv_at hl 1 rfl) ?_
    refine kk_i (va_runV (As := [.int t]) (rest := []) ⟨hx, hb, hml, hown, hts⟩ (c_standing l D A ad w2 ((sS S 17 (opK S t))) hM.re t nC hC hn) (cwV 1 hts gX6_undoTo_X6_standing rfl rfl rfl (by decide +kernel) ⟨Nat.le_of_ble_eq_true rfl, Nat.le_of_ble_eq_true rfl⟩) (kV hE hW hM.o rfl _) rfl rfl hl.1 rfl (lv_room (Nat.le_of_ble_eq_true rfl)) dX6_undoTo_12 ⟨Nat.le_of_ble_eq_true rfl, Nat.le_of_ble_eq_true rfl⟩) hW (fun r13 ad10 w11 H14 locs hp12 hW => ?_)
    obtain ⟨e15, e16, e17⟩ := hp12
    rw [e16, e17] at hW
    subst e15
    refine lv_istore_n (lv' := [(3, .int (utA S t)), (0, .ref (ad 2000)), (1, .int t), (2, .int k)]) hx hb dX6_undoTo_15 rfl hl (by decide) rfl (fun ls hl => ?_)
    refine lv_aload_n hx hb dX6_undoTo_16 rfl (lv_at hl 1 rfl) ?_
    refine lv_iload_n hx hb dX6_undoTo_17 rfl (lv_at hl 3 rfl) ?_
    refine lv_iconst (v := 0) hx hb dX6_undoTo_18 (by decide) ?_
    refine lv_iload_n hx hb dX6_undoTo_19 rfl (lv_at hl 0 rfl) ?_
    refine W_joinH (D := D) (A := A) (w := w2) (ad := ad) (P := fun v => v = utK S t k) (pj := 31) (rj := [.ref (ad 2000)]) (lj := ls) (fun v H18 locs hv hW => ?_) (fun J31 => ?_)
    · subst hv
      refine kk_i (va_runV (As := [.int (utK S t k)]) (rest := []) ⟨hx, hb, hml, hown, hts⟩ (c_can l D A ad w2 ((sS S 17 (opK S t))) hM.re (utK S t k)) (cwV 1 hts gX6_undoTo_X6_can rfl rfl rfl (by decide +kernel) ⟨Nat.le_of_ble_eq_true rfl, Nat.le_of_ble_eq_true rfl⟩) (kV hE hW hM.o rfl _) rfl rfl hl.1 rfl (lv_room (Nat.le_of_ble_eq_true rfl)) dX6_undoTo_31 ⟨Nat.le_of_ble_eq_true rfl, Nat.le_of_ble_eq_true rfl⟩) hW (fun r22 ad19 w20 H23 locs hp21 hW => ?_)
      obtain ⟨e24, e25, e26⟩ := hp21
      rw [e25] at hW
      have hM := hM.tr e26
      subst e24
      rw [sS_sS] at hM
      refine lv_if_ne (tgt := 39) hx hb dX6_undoTo_34 (by decide) (fun c27 => ?_) (fun c27 => ?_)
      · refine lv_aload_n hx hb dX6_undoTo_39 rfl (lv_at hl 1 rfl) ?_
        refine lv_iload_n hx hb dX6_undoTo_40 rfl (lv_at hl 2 rfl) ?_
        refine lv_iload_n hx hb dX6_undoTo_41 rfl (lv_at hl 0 rfl) ?_
        refine lv_iload_n hx hb dX6_undoTo_42 rfl (lv_at hl 3 rfl) ?_
        refine lv_isub hx hb dX6_undoTo_43 ?_
        refine kk_v (va_runV (As := [.int t, .int ((utA S t) - k)]) (rest := []) ⟨hx, hb, hml, hown, hts⟩ (c_undoes l D A ad w20 ((sS S 17 (utK S t k))) hM.re t (utA S t - k) nC hC hn hro) (cwV 2 hts gX6_undoTo_X6_undoes rfl rfl rfl (by decide +kernel) ⟨Nat.le_of_ble_eq_true rfl, Nat.le_of_ble_eq_true rfl⟩) (kV hE hW hM.o rfl _) rfl rfl hl.1 rfl (lv_room (Nat.le_of_ble_eq_true rfl)) dX6_undoTo_44 ⟨Nat.le_of_ble_eq_true rfl, Nat.le_of_ble_eq_true rfl⟩) hW (fun ad28 w29 H32 locs hp30 hW => ?_)
        obtain ⟨e34, e35⟩ := hp30
        rw [e34] at hW
        have hM := hM.tr e35
        refine lv_iload_n hx hb dX6_undoTo_47 rfl (lv_at hl 0 rfl) ?_
        refine lv_iload_n hx hb dX6_undoTo_48 rfl (lv_at hl 3 rfl) ?_
        refine lv_isub hx hb dX6_undoTo_49 ?_
        exact ke_i hx hb hr hlocks (Nat.le_of_ble_eq_true rfl) (Nat.le_of_ble_eq_true rfl) dX6_undoTo_50 hW (⟨(if_pos (bI_t c27)).symm, rfl, by rw [show utN S t k = _ from if_pos (bI_t c27)]; exact hM⟩)
      · refine lv_iconst (v := 0) hx hb dX6_undoTo_37 (by decide) ?_
        exact ke_i hx hb hr hlocks (Nat.le_of_ble_eq_true rfl) (Nat.le_of_ble_eq_true rfl) dX6_undoTo_38 hW (⟨(if_neg (bI_f c27)).symm, rfl, by rw [show utN S t k = _ from if_neg (bI_f c27)]; exact hM⟩)
    · refine kk_i (va_runS (As := [.int k, .int 0, .int (utA S t)]) (rest := [.ref (ad 2000)]) ⟨hx, hb, hml, hown, hts⟩ (c_isIn l D A ad w2 k 0 (utA S t)) (va_cwS 3 hts gX6_undoTo_X6_isIn rfl rfl rfl (by decide +kernel) ⟨Nat.le_of_ble_eq_true rfl, Nat.le_of_ble_eq_true rfl⟩) (kSt hE hW _) rfl rfl hl.1 rfl (lv_room (Nat.le_of_ble_eq_true rfl)) dX6_undoTo_20 ⟨Nat.le_of_ble_eq_true rfl, Nat.le_of_ble_eq_true rfl⟩) hW (fun r39 ad36 w37 H40 locs hp38 hW => ?_)
      obtain ⟨e41, e42, e43⟩ := hp38
      rw [e42, e43] at hW
      subst e41
      refine lv_if_eq (tgt := 30) hx hb dX6_undoTo_23 (by decide) (fun c44 => ?_) (fun c44 => ?_)
      · refine lv_iconst (v := 3) hx hb dX6_undoTo_30 (by decide) ?_
        exact J31 _ _ _ (((if_pos ho).trans (if_neg (bI_f c44))).symm) hW
      · refine lv_iconst (v := 0) hx hb dX6_undoTo_26 (by decide) ?_
        refine lv_goto (tgt := 31) hx hb dX6_undoTo_27 (by decide) ?_
        exact J31 _ _ _ (((if_pos ho).trans (if_pos (bI_t c44))).symm) hW
  · have ho : ¬ opK S t = 0 := bI_f c9
    have hu : utK S t k = opK S t := if_neg ho
    refine lv_iconst (v := 0) hx hb dX6_undoTo_8 (by decide) ?_
    exact ke_i hx hb hr hlocks (Nat.le_of_ble_eq_true rfl) (Nat.le_of_ble_eq_true rfl) dX6_undoTo_9 hW (⟨(if_neg (by rw [hu]; exact ho)).symm, rfl, by rw [show utN S t k = _ from if_neg (by rw [hu]; exact ho), hu]; exact hM⟩)

set_option maxHeartbeats 4000000 in
set_option maxRecDepth 100000 in
/-- c_undo -/
theorem c_undo (l : Launch) (D : va_G) (A : Nat → Prop) (ad : Nat → Nat) (w : kWd) (S : St) (hM : MW D S ad w w) (t : Int32) (nT : Nat) (hT : S 12 0 = nI nT) (hT6 : nT ≤ 60) (nC : Nat) (hC : S 13 0 = nI nC) (hn : nC ≤ 2000) (hro : ∀ k, k < nC → vp_in (S 5 k) 12)  : Met l yX6_undo wsX6_undo ({ frames := 3, cells := 0, slots := 0, locals := 64 }) (kPc D A [.ref (ad 2000), .int t] ad w) (kQi D A (fun v ad' w' => v = udR S t ∧ ad' = ad ∧ MW D (udN S t) ad w w')) 0 0 A := by
  refine Met.ofW (cc := cX6_undo) (maxL := 3) (ret := (some (.int))) (by decide) rfl ?_
  intro p e s m args below meth c s₁ B hml hv
  obtain ⟨rfl, hE, hW0, hI0, hA⟩ := hv
  have hx := B.exec
  have hb := B.bytes
  have hr := B.returns
  have hts := atoms_spec (ws := wsX6_undo) B.pre
  have hown : s.vm.findClass RX6 = some m.cls := findClass_of_methodNamed B.named
  have hlocks := B.notSynchronized
  have hiRX6 : ∀ w ∈ wsX60, w ∈ wsX6_undo := by decide +kernel
  have hW : kS D A s.heap ad w s.heap [] := ⟨hW0, hI0, va_S.rf, hA⟩
  have hl := lv_entry ([.ref (ad 2000), .int t]) (n := 3) (Nat.le_of_ble_eq_true rfl)
  rw [lg_entry_eq]
  generalize (lg_sl ([.ref (ad 2000), .int t]) ++ List.replicate (3 - (lg_sl ([.ref (ad 2000), .int t])).length) Slot.unset).toArray = ls at hl ⊢
  have hl : lv_has ls 3 [(0, .ref (ad 2000)), (1, .int t)] := hl
  refine lv_aload_n hx hb dX6_undo_0 rfl (lv_at hl 0 rfl) ?_
  refine lv_iload_n hx hb dX6_undo_1 rfl (lv_at hl 1 rfl) ?_
  refine kk_i (va_runV (As := [.int t]) (rest := []) ⟨hx, hb, hml, hown, hts⟩ (c_isOpen l D A ad w (S) hM.re t nT hT hT6) (cwV 1 hts gX6_undo_X6_isOpen rfl rfl rfl (by decide +kernel) ⟨Nat.le_of_ble_eq_true rfl, Nat.le_of_ble_eq_true rfl⟩) (kV hE hW hM.o rfl _) rfl rfl hl.1 rfl (lv_room (Nat.le_of_ble_eq_true rfl)) dX6_undo_2 ⟨Nat.le_of_ble_eq_true rfl, Nat.le_of_ble_eq_true rfl⟩) hW (fun r4 ad1 w2 H5 locs hp3 hW => ?_)
  obtain ⟨e6, e7, e8⟩ := hp3
  rw [e7] at hW
  have hM := hM.tr e8
  subst e6
  refine lv_if_ne (tgt := 10) hx hb dX6_undo_5 (by decide) (fun c9 => ?_) (fun c9 => ?_)
  · have ho := bI_t c9
    have htr : trP S t := by
      refine Decidable.byContradiction fun q => ?_
      rw [show opK S t = 1 from if_neg q] at ho
      exact absurd ho (by decide)
    have hv6 : vp_in t 60 := by
      obtain ⟨j, h1, rfl⟩ := inP_T hT6 (by rw [← hT]; exact htr)
      exact vp_in_nI (by omega) (by omega)
    refine lv_aload_n hx hb dX6_undo_10 rfl (lv_at hl 0 rfl) ?_
    refine lv_iload_n hx hb dX6_undo_11 rfl (lv_at hl 1 rfl) ?_
    refine kk_i (va_runV (As := [.int t]) (rest := []) ⟨hx, hb, hml, hown, hts⟩ (c_standing l D A ad w2 ((sS S 17 (opK S t))) hM.re t nC hC hn) (cwV 1 hts gX6_undo_X6_standing rfl rfl rfl (by decide +kernel) ⟨Nat.le_of_ble_eq_true rfl, Nat.le_of_ble_eq_true rfl⟩) (kV hE hW hM.o rfl _) rfl rfl hl.1 rfl (lv_room (Nat.le_of_ble_eq_true rfl)) dX6_undo_12 ⟨Nat.le_of_ble_eq_true rfl, Nat.le_of_ble_eq_true rfl⟩) hW (fun r13 ad10 w11 H14 locs hp12 hW => ?_)
    obtain ⟨e15, e16, e17⟩ := hp12
    rw [e16, e17] at hW
    subst e15
    refine lv_istore_n (lv' := [(2, .int (utA S t)), (0, .ref (ad 2000)), (1, .int t)]) hx hb dX6_undo_15 rfl hl (by decide) rfl (fun ls hl => ?_)
    refine lv_aload_n hx hb dX6_undo_16 rfl (lv_at hl 1 rfl) ?_
    refine lv_iload_n hx hb dX6_undo_17 rfl (lv_at hl 2 rfl) ?_
    refine lv_iload_n hx hb dX6_undo_18 rfl (lv_at hl 0 rfl) ?_
    refine kk_v (va_runV (As := [.int t, .int (utA S t)]) (rest := []) ⟨hx, hb, hml, hown, hts⟩ (c_undoes l D A ad w2 ((sS S 17 (opK S t))) hM.re t (utA S t) nC hC hn hro) (cwV 2 hts gX6_undo_X6_undoes rfl rfl rfl (by decide +kernel) ⟨Nat.le_of_ble_eq_true rfl, Nat.le_of_ble_eq_true rfl⟩) (kV hE hW hM.o rfl _) rfl rfl hl.1 rfl (lv_room (Nat.le_of_ble_eq_true rfl)) dX6_undo_19 ⟨Nat.le_of_ble_eq_true rfl, Nat.le_of_ble_eq_true rfl⟩) hW (fun ad18 w19 H22 locs hp20 hW => ?_)
    obtain ⟨e24, e25⟩ := hp20
    rw [e24] at hW
    have hM := hM.tr e25
    refine lv_aload_n hx hb dX6_undo_22 rfl (lv_at hl 1 rfl) ?_
    refine kk_get hx hb hts hown hE hW hM.o rfl hiRX6 4 (by decide) (hts (.fieldLink RX6 17 "UndoCellarModel" "state" "[I") (by decide +kernel)) (fun _ h9 => h9) rfl dX6_undo_23 ?_
    refine lv_iload_n hx hb dX6_undo_26 rfl (lv_at hl 2 rfl) ?_
    refine lv_iconst (v := 2) hx hb dX6_undo_27 (by decide) ?_
    refine kk_iast hx hb hE hW hM.a1 hv6 dX6_undo_28 (fun H28 locs w26 e27 hW => ?_)
    have hM := hM.t1 e27
    refine lv_iload_n hx hb dX6_undo_29 rfl (lv_at hl 0 rfl) ?_
    exact ke_i hx hb hr hlocks (Nat.le_of_ble_eq_true rfl) (Nat.le_of_ble_eq_true rfl) dX6_undo_30 hW (⟨(if_pos ho).symm, rfl, by rw [show udN S t = _ from if_pos ho]; exact hM⟩)
  · refine lv_iconst (v := 0) hx hb dX6_undo_8 (by decide) ?_
    exact ke_i hx hb hr hlocks (Nat.le_of_ble_eq_true rfl) (Nat.le_of_ble_eq_true rfl) dX6_undo_9 hW (⟨(if_neg (bI_f c9)).symm, rfl, by rw [show udN S t = _ from if_neg (bI_f c9)]; exact hM⟩)

set_option maxHeartbeats 4000000 in
set_option maxRecDepth 100000 in
/-- c_commit -/
theorem c_commit (l : Launch) (D : va_G) (A : Nat → Prop) (ad : Nat → Nat) (w : kWd) (S : St) (hM : MW D S ad w w) (t : Int32) (nT : Nat) (hT : S 12 0 = nI nT) (hT6 : nT ≤ 60)  : Met l yX6_commit wsX6_commit ({ frames := 3, cells := 0, slots := 0, locals := 64 }) (kPc D A [.ref (ad 2000), .int t] ad w) (kQi D A (fun v ad' w' => v = cmR S t ∧ ad' = ad ∧ MW D (cmN S t) ad w w')) 0 0 A := by
  refine Met.ofW (cc := cX6_commit) (maxL := 2) (ret := (some (.int))) (by decide) rfl ?_
  intro p e s m args below meth c s₁ B hml hv
  obtain ⟨rfl, hE, hW0, hI0, hA⟩ := hv
  have hx := B.exec
  have hb := B.bytes
  have hr := B.returns
  have hts := atoms_spec (ws := wsX6_commit) B.pre
  have hown : s.vm.findClass RX6 = some m.cls := findClass_of_methodNamed B.named
  have hlocks := B.notSynchronized
  have hiRX6 : ∀ w ∈ wsX60, w ∈ wsX6_commit := by decide +kernel
  have hW : kS D A s.heap ad w s.heap [] := ⟨hW0, hI0, va_S.rf, hA⟩
  have hl := lv_entry ([.ref (ad 2000), .int t]) (n := 2) (Nat.le_of_ble_eq_true rfl)
  rw [lg_entry_eq]
  generalize (lg_sl ([.ref (ad 2000), .int t]) ++ List.replicate (2 - (lg_sl ([.ref (ad 2000), .int t])).length) Slot.unset).toArray = ls at hl ⊢
  have hl : lv_has ls 2 [(0, .ref (ad 2000)), (1, .int t)] := hl
  refine lv_aload_n hx hb dX6_commit_0 rfl (lv_at hl 0 rfl) ?_
  refine lv_iload_n hx hb dX6_commit_1 rfl (lv_at hl 1 rfl) ?_
  refine kk_i (va_runV (As := [.int t]) (rest := []) ⟨hx, hb, hml, hown, hts⟩ (c_isOpen l D A ad w (S) hM.re t nT hT hT6) (cwV 1 hts gX6_commit_X6_isOpen rfl rfl rfl (by decide +kernel) ⟨Nat.le_of_ble_eq_true rfl, Nat.le_of_ble_eq_true rfl⟩) (kV hE hW hM.o rfl _) rfl rfl hl.1 rfl (lv_room (Nat.le_of_ble_eq_true rfl)) dX6_commit_2 ⟨Nat.le_of_ble_eq_true rfl, Nat.le_of_ble_eq_true rfl⟩) hW (fun r4 ad1 w2 H5 locs hp3 hW => ?_)
  obtain ⟨e6, e7, e8⟩ := hp3
  rw [e7] at hW
  have hM := hM.tr e8
  subst e6
  refine lv_if_ne (tgt := 10) hx hb dX6_commit_5 (by decide) (fun c9 => ?_) (fun c9 => ?_)
  · have ho := bI_t c9
    have htr : trP S t := by
      refine Decidable.byContradiction fun q => ?_
      rw [show opK S t = 1 from if_neg q] at ho
      exact absurd ho (by decide)
    have hv6 : vp_in t 60 := by
      obtain ⟨j, h1, rfl⟩ := inP_T hT6 (by rw [← hT]; exact htr)
      exact vp_in_nI (by omega) (by omega)
    refine lv_aload_n hx hb dX6_commit_10 rfl (lv_at hl 0 rfl) ?_
    refine lv_dup hx hb dX6_commit_11 rfl ?_
    refine kk_get hx hb hts hown hE hW hM.o rfl hiRX6 2 (by decide) (hts (.fieldLink RX6 65 "UndoCellarModel" "moment" "I") (by decide +kernel)) (fun _ h9 => h9) rfl dX6_commit_12 ?_
    refine lv_iconst (v := 1) hx hb dX6_commit_15 (by decide) ?_
    refine lv_iadd hx hb dX6_commit_16 ?_
    refine kk_put hx hb hts hown hE hW hM.o rfl hiRX6 tyX6 tyX6_ok nmX6 2 (by decide) (hts (.fieldLink RX6 65 "UndoCellarModel" "moment" "I") (by decide +kernel)) (fun _ h9 => h9) rfl (ty := tyX6 2) (tyX6_ok 2 (by decide)) rfl rfl (Nat.le_of_ble_eq_true rfl) dX6_commit_17 (fun H12 locs w10 e11 hW => ?_)
    have hM := hM.s11 e11
    refine lv_aload_n hx hb dX6_commit_20 rfl (lv_at hl 0 rfl) ?_
    refine kk_get hx hb hts hown hE hW (show w10 2000 = some (.inr (7, [.ref (ad 2001), .int ((sS S 17 (opK S t)) 10 0), .int ((((sS S 17 (opK S t)) 11 0) + 1)), .int ((sS S 17 (opK S t)) 12 0), .ref (ad 2002), .ref (ad 2003), .ref (ad 2004), .int ((sS S 17 (opK S t)) 13 0), .ref (ad 2005), .ref (ad 2006), .ref (ad 2007), .ref (ad 2008), .int ((sS S 17 (opK S t)) 14 0), .ref (ad 2009), .ref (ad 2010), .int ((sS S 17 (opK S t)) 15 0), .int ((sS S 17 (opK S t)) 16 0), .int ((sS S 17 (opK S t)) 17 0)])) from hM.o) rfl hiRX6 4 (by decide) (hts (.fieldLink RX6 17 "UndoCellarModel" "state" "[I") (by decide +kernel)) (fun _ h9 => h9) rfl dX6_commit_21 ?_
    refine lv_iload_n hx hb dX6_commit_24 rfl (lv_at hl 1 rfl) ?_
    refine lv_iconst (v := 1) hx hb dX6_commit_25 (by decide) ?_
    refine kk_iast hx hb hE hW (show w10 2002 = some (.inl (D.1 100, 60, .inl ((sS S 17 (opK S t)) 1))) from hM.a1) hv6 dX6_commit_26 (fun H15 locs w13 e14 hW => ?_)
    have hM := hM.t1 e14
    refine lv_aload_n hx hb dX6_commit_27 rfl (lv_at hl 0 rfl) ?_
    refine kk_get hx hb hts hown hE hW (show w13 2000 = some (.inr (7, [.ref (ad 2001), .int ((sS S 17 (opK S t)) 10 0), .int ((((sS S 17 (opK S t)) 11 0) + 1)), .int ((sS S 17 (opK S t)) 12 0), .ref (ad 2002), .ref (ad 2003), .ref (ad 2004), .int ((sS S 17 (opK S t)) 13 0), .ref (ad 2005), .ref (ad 2006), .ref (ad 2007), .ref (ad 2008), .int ((sS S 17 (opK S t)) 14 0), .ref (ad 2009), .ref (ad 2010), .int ((sS S 17 (opK S t)) 15 0), .int ((sS S 17 (opK S t)) 16 0), .int ((sS S 17 (opK S t)) 17 0)])) from hM.o) rfl hiRX6 6 (by decide) (hts (.fieldLink RX6 23 "UndoCellarModel" "committedAt" "[I") (by decide +kernel)) (fun _ h9 => h9) rfl dX6_commit_28 ?_
    refine lv_iload_n hx hb dX6_commit_31 rfl (lv_at hl 1 rfl) ?_
    refine lv_aload_n hx hb dX6_commit_32 rfl (lv_at hl 0 rfl) ?_
    refine kk_get hx hb hts hown hE hW (show w13 2000 = some (.inr (7, [.ref (ad 2001), .int ((sS S 17 (opK S t)) 10 0), .int ((((sS S 17 (opK S t)) 11 0) + 1)), .int ((sS S 17 (opK S t)) 12 0), .ref (ad 2002), .ref (ad 2003), .ref (ad 2004), .int ((sS S 17 (opK S t)) 13 0), .ref (ad 2005), .ref (ad 2006), .ref (ad 2007), .ref (ad 2008), .int ((sS S 17 (opK S t)) 14 0), .ref (ad 2009), .ref (ad 2010), .int ((sS S 17 (opK S t)) 15 0), .int ((sS S 17 (opK S t)) 16 0), .int ((sS S 17 (opK S t)) 17 0)])) from hM.o) rfl hiRX6 2 (by decide) (hts (.fieldLink RX6 65 "UndoCellarModel" "moment" "I") (by decide +kernel)) (fun _ h9 => h9) rfl dX6_commit_33 ?_
    refine kk_iast hx hb hE hW (show w13 2004 = some (.inl (D.1 100, 60, .inl ((sS S 17 (opK S t)) 3))) from hM.a3) hv6 dX6_commit_36 (fun H18 locs w16 e17 hW => ?_)
    have hM := hM.t3 e17
    refine lv_aload_n hx hb dX6_commit_37 rfl (lv_at hl 0 rfl) ?_
    refine kk_get hx hb hts hown hE hW (show w16 2000 = some (.inr (7, [.ref (ad 2001), .int ((sS S 17 (opK S t)) 10 0), .int ((((sS S 17 (opK S t)) 11 0) + 1)), .int ((sS S 17 (opK S t)) 12 0), .ref (ad 2002), .ref (ad 2003), .ref (ad 2004), .int ((sS S 17 (opK S t)) 13 0), .ref (ad 2005), .ref (ad 2006), .ref (ad 2007), .ref (ad 2008), .int ((sS S 17 (opK S t)) 14 0), .ref (ad 2009), .ref (ad 2010), .int ((sS S 17 (opK S t)) 15 0), .int ((sS S 17 (opK S t)) 16 0), .int ((sS S 17 (opK S t)) 17 0)])) from hM.o) rfl hiRX6 2 (by decide) (hts (.fieldLink RX6 65 "UndoCellarModel" "moment" "I") (by decide +kernel)) (fun _ h9 => h9) rfl dX6_commit_38 ?_
    exact ke_i hx hb hr hlocks (Nat.le_of_ble_eq_true rfl) (Nat.le_of_ble_eq_true rfl) dX6_commit_41 hW (⟨(if_pos ho).symm, rfl, by rw [show cmN S t = _ from if_pos ho]; exact hM⟩)
  · refine lv_iconst (v := 0) hx hb dX6_commit_8 (by decide) ?_
    exact ke_i hx hb hr hlocks (Nat.le_of_ble_eq_true rfl) (Nat.le_of_ble_eq_true rfl) dX6_commit_9 hW (⟨(if_neg (bI_f c9)).symm, rfl, by rw [show cmN S t = _ from if_neg (bI_f c9)]; exact hM⟩)

set_option maxHeartbeats 4000000 in
set_option maxRecDepth 100000 in
/-- c_moment -/
theorem c_moment (l : Launch) (D : va_G) (A : Nat → Prop) (ad : Nat → Nat) (w : kWd) (S : St) (hM : MW D S ad w w)  : Met l yX6_moment wsX6_moment ({ frames := 0, cells := 0, slots := 0, locals := 0 }) (kPc D A [.ref (ad 2000)] ad w) (kQi D A (fun v ad' w' => v = S 11 0 ∧ ad' = ad ∧ MW D (sS S 17 0) ad w w')) 0 0 A := by
  refine Met.ofW (cc := cX6_moment) (maxL := 1) (ret := (some (.int))) (by decide) rfl ?_
  intro p e s m args below meth c s₁ B hml hv
  obtain ⟨rfl, hE, hW0, hI0, hA⟩ := hv
  have hx := B.exec
  have hb := B.bytes
  have hr := B.returns
  have hts := atoms_spec (ws := wsX6_moment) B.pre
  have hown : s.vm.findClass RX6 = some m.cls := findClass_of_methodNamed B.named
  have hlocks := B.notSynchronized
  have hiRX6 : ∀ w ∈ wsX60, w ∈ wsX6_moment := by decide +kernel
  have hW : kS D A s.heap ad w s.heap [] := ⟨hW0, hI0, va_S.rf, hA⟩
  have hl := lv_entry ([.ref (ad 2000)]) (n := 1) (Nat.le_of_ble_eq_true rfl)
  rw [lg_entry_eq]
  generalize (lg_sl ([.ref (ad 2000)]) ++ List.replicate (1 - (lg_sl ([.ref (ad 2000)])).length) Slot.unset).toArray = ls at hl ⊢
  have hl : lv_has ls 1 [(0, .ref (ad 2000))] := hl
  refine lv_aload_n hx hb dX6_moment_0 rfl (lv_at hl 0 rfl) ?_
  refine lv_iconst (v := 0) hx hb dX6_moment_1 (by decide) ?_
  refine kk_put hx hb hts hown hE hW hM.o rfl hiRX6 tyX6 tyX6_ok nmX6 17 (by decide) (hts (.fieldLink RX6 45 "UndoCellarModel" "thrown" "I") (by decide +kernel)) (fun _ h9 => h9) rfl (ty := tyX6 17) (tyX6_ok 17 (by decide)) rfl rfl (Nat.le_of_ble_eq_true rfl) dX6_moment_2 (fun H3 locs w1 e2 hW => ?_)
  have hM := hM.s17 e2
  refine lv_aload_n hx hb dX6_moment_5 rfl (lv_at hl 0 rfl) ?_
  refine kk_get hx hb hts hown hE hW (show w1 2000 = some (.inr (7, [.ref (ad 2001), .int (S 10 0), .int (S 11 0), .int (S 12 0), .ref (ad 2002), .ref (ad 2003), .ref (ad 2004), .int (S 13 0), .ref (ad 2005), .ref (ad 2006), .ref (ad 2007), .ref (ad 2008), .int (S 14 0), .ref (ad 2009), .ref (ad 2010), .int (S 15 0), .int (S 16 0), .int (0)])) from hM.o) rfl hiRX6 2 (by decide) (hts (.fieldLink RX6 65 "UndoCellarModel" "moment" "I") (by decide +kernel)) (fun _ h9 => h9) rfl dX6_moment_6 ?_
  exact ke_i hx hb hr hlocks (Nat.le_of_ble_eq_true rfl) (Nat.le_of_ble_eq_true rfl) dX6_moment_9 hW (⟨rfl, rfl, hM⟩)

set_option maxHeartbeats 4000000 in
set_option maxRecDepth 100000 in
/-- c_transactions -/
theorem c_transactions (l : Launch) (D : va_G) (A : Nat → Prop) (ad : Nat → Nat) (w : kWd) (S : St) (hM : MW D S ad w w)  : Met l yX6_transactions wsX6_transactions ({ frames := 0, cells := 0, slots := 0, locals := 0 }) (kPc D A [.ref (ad 2000)] ad w) (kQi D A (fun v ad' w' => v = S 12 0 ∧ ad' = ad ∧ MW D (sS S 17 0) ad w w')) 0 0 A := by
  refine Met.ofW (cc := cX6_transactions) (maxL := 1) (ret := (some (.int))) (by decide) rfl ?_
  intro p e s m args below meth c s₁ B hml hv
  obtain ⟨rfl, hE, hW0, hI0, hA⟩ := hv
  have hx := B.exec
  have hb := B.bytes
  have hr := B.returns
  have hts := atoms_spec (ws := wsX6_transactions) B.pre
  have hown : s.vm.findClass RX6 = some m.cls := findClass_of_methodNamed B.named
  have hlocks := B.notSynchronized
  have hiRX6 : ∀ w ∈ wsX60, w ∈ wsX6_transactions := by decide +kernel
  have hW : kS D A s.heap ad w s.heap [] := ⟨hW0, hI0, va_S.rf, hA⟩
  have hl := lv_entry ([.ref (ad 2000)]) (n := 1) (Nat.le_of_ble_eq_true rfl)
  rw [lg_entry_eq]
  generalize (lg_sl ([.ref (ad 2000)]) ++ List.replicate (1 - (lg_sl ([.ref (ad 2000)])).length) Slot.unset).toArray = ls at hl ⊢
  have hl : lv_has ls 1 [(0, .ref (ad 2000))] := hl
  refine lv_aload_n hx hb dX6_transactions_0 rfl (lv_at hl 0 rfl) ?_
  refine lv_iconst (v := 0) hx hb dX6_transactions_1 (by decide) ?_
  refine kk_put hx hb hts hown hE hW hM.o rfl hiRX6 tyX6 tyX6_ok nmX6 17 (by decide) (hts (.fieldLink RX6 45 "UndoCellarModel" "thrown" "I") (by decide +kernel)) (fun _ h9 => h9) rfl (ty := tyX6 17) (tyX6_ok 17 (by decide)) rfl rfl (Nat.le_of_ble_eq_true rfl) dX6_transactions_2 (fun H3 locs w1 e2 hW => ?_)
  have hM := hM.s17 e2
  refine lv_aload_n hx hb dX6_transactions_5 rfl (lv_at hl 0 rfl) ?_
  refine kk_get hx hb hts hown hE hW (show w1 2000 = some (.inr (7, [.ref (ad 2001), .int (S 10 0), .int (S 11 0), .int (S 12 0), .ref (ad 2002), .ref (ad 2003), .ref (ad 2004), .int (S 13 0), .ref (ad 2005), .ref (ad 2006), .ref (ad 2007), .ref (ad 2008), .int (S 14 0), .ref (ad 2009), .ref (ad 2010), .int (S 15 0), .int (S 16 0), .int (0)])) from hM.o) rfl hiRX6 3 (by decide) (hts (.fieldLink RX6 52 "UndoCellarModel" "transactions" "I") (by decide +kernel)) (fun _ h9 => h9) rfl dX6_transactions_6 ?_
  exact ke_i hx hb hr hlocks (Nat.le_of_ble_eq_true rfl) (Nat.le_of_ble_eq_true rfl) dX6_transactions_9 hW (⟨rfl, rfl, hM⟩)

set_option maxHeartbeats 4000000 in
set_option maxRecDepth 100000 in
/-- c_marked -/
theorem c_marked (l : Launch) (D : va_G) (A : Nat → Prop) (ad : Nat → Nat) (w : kWd) (S : St) (hM : MW D S ad w w)  : Met l yX6_marked wsX6_marked ({ frames := 0, cells := 0, slots := 0, locals := 0 }) (kPc D A [.ref (ad 2000)] ad w) (kQi D A (fun v ad' w' => v = S 15 0 ∧ ad' = ad ∧ MW D (sS S 17 0) ad w w')) 0 0 A := by
  refine Met.ofW (cc := cX6_marked) (maxL := 1) (ret := (some (.int))) (by decide) rfl ?_
  intro p e s m args below meth c s₁ B hml hv
  obtain ⟨rfl, hE, hW0, hI0, hA⟩ := hv
  have hx := B.exec
  have hb := B.bytes
  have hr := B.returns
  have hts := atoms_spec (ws := wsX6_marked) B.pre
  have hown : s.vm.findClass RX6 = some m.cls := findClass_of_methodNamed B.named
  have hlocks := B.notSynchronized
  have hiRX6 : ∀ w ∈ wsX60, w ∈ wsX6_marked := by decide +kernel
  have hW : kS D A s.heap ad w s.heap [] := ⟨hW0, hI0, va_S.rf, hA⟩
  have hl := lv_entry ([.ref (ad 2000)]) (n := 1) (Nat.le_of_ble_eq_true rfl)
  rw [lg_entry_eq]
  generalize (lg_sl ([.ref (ad 2000)]) ++ List.replicate (1 - (lg_sl ([.ref (ad 2000)])).length) Slot.unset).toArray = ls at hl ⊢
  have hl : lv_has ls 1 [(0, .ref (ad 2000))] := hl
  refine lv_aload_n hx hb dX6_marked_0 rfl (lv_at hl 0 rfl) ?_
  refine lv_iconst (v := 0) hx hb dX6_marked_1 (by decide) ?_
  refine kk_put hx hb hts hown hE hW hM.o rfl hiRX6 tyX6 tyX6_ok nmX6 17 (by decide) (hts (.fieldLink RX6 45 "UndoCellarModel" "thrown" "I") (by decide +kernel)) (fun _ h9 => h9) rfl (ty := tyX6 17) (tyX6_ok 17 (by decide)) rfl rfl (Nat.le_of_ble_eq_true rfl) dX6_marked_2 (fun H3 locs w1 e2 hW => ?_)
  have hM := hM.s17 e2
  refine lv_aload_n hx hb dX6_marked_5 rfl (lv_at hl 0 rfl) ?_
  refine kk_get hx hb hts hown hE hW (show w1 2000 = some (.inr (7, [.ref (ad 2001), .int (S 10 0), .int (S 11 0), .int (S 12 0), .ref (ad 2002), .ref (ad 2003), .ref (ad 2004), .int (S 13 0), .ref (ad 2005), .ref (ad 2006), .ref (ad 2007), .ref (ad 2008), .int (S 14 0), .ref (ad 2009), .ref (ad 2010), .int (S 15 0), .int (S 16 0), .int (0)])) from hM.o) rfl hiRX6 15 (by decide) (hts (.fieldLink RX6 71 "UndoCellarModel" "marks" "I") (by decide +kernel)) (fun _ h9 => h9) rfl dX6_marked_6 ?_
  exact ke_i hx hb hr hlocks (Nat.le_of_ble_eq_true rfl) (Nat.le_of_ble_eq_true rfl) dX6_marked_9 hW (⟨rfl, rfl, hM⟩)

set_option maxHeartbeats 4000000 in
set_option maxRecDepth 100000 in
/-- c_records -/
theorem c_records (l : Launch) (D : va_G) (A : Nat → Prop) (ad : Nat → Nat) (w : kWd) (S : St) (hM : MW D S ad w w)  : Met l yX6_records wsX6_records ({ frames := 0, cells := 0, slots := 0, locals := 0 }) (kPc D A [.ref (ad 2000)] ad w) (kQi D A (fun v ad' w' => v = S 13 0 - S 14 0 ∧ ad' = ad ∧ MW D (sS S 17 0) ad w w')) 0 0 A := by
  refine Met.ofW (cc := cX6_records) (maxL := 1) (ret := (some (.int))) (by decide) rfl ?_
  intro p e s m args below meth c s₁ B hml hv
  obtain ⟨rfl, hE, hW0, hI0, hA⟩ := hv
  have hx := B.exec
  have hb := B.bytes
  have hr := B.returns
  have hts := atoms_spec (ws := wsX6_records) B.pre
  have hown : s.vm.findClass RX6 = some m.cls := findClass_of_methodNamed B.named
  have hlocks := B.notSynchronized
  have hiRX6 : ∀ w ∈ wsX60, w ∈ wsX6_records := by decide +kernel
  have hW : kS D A s.heap ad w s.heap [] := ⟨hW0, hI0, va_S.rf, hA⟩
  have hl := lv_entry ([.ref (ad 2000)]) (n := 1) (Nat.le_of_ble_eq_true rfl)
  rw [lg_entry_eq]
  generalize (lg_sl ([.ref (ad 2000)]) ++ List.replicate (1 - (lg_sl ([.ref (ad 2000)])).length) Slot.unset).toArray = ls at hl ⊢
  have hl : lv_has ls 1 [(0, .ref (ad 2000))] := hl
  refine lv_aload_n hx hb dX6_records_0 rfl (lv_at hl 0 rfl) ?_
  refine lv_iconst (v := 0) hx hb dX6_records_1 (by decide) ?_
  refine kk_put hx hb hts hown hE hW hM.o rfl hiRX6 tyX6 tyX6_ok nmX6 17 (by decide) (hts (.fieldLink RX6 45 "UndoCellarModel" "thrown" "I") (by decide +kernel)) (fun _ h9 => h9) rfl (ty := tyX6 17) (tyX6_ok 17 (by decide)) rfl rfl (Nat.le_of_ble_eq_true rfl) dX6_records_2 (fun H3 locs w1 e2 hW => ?_)
  have hM := hM.s17 e2
  refine lv_aload_n hx hb dX6_records_5 rfl (lv_at hl 0 rfl) ?_
  refine kk_get hx hb hts hown hE hW (show w1 2000 = some (.inr (7, [.ref (ad 2001), .int (S 10 0), .int (S 11 0), .int (S 12 0), .ref (ad 2002), .ref (ad 2003), .ref (ad 2004), .int (S 13 0), .ref (ad 2005), .ref (ad 2006), .ref (ad 2007), .ref (ad 2008), .int (S 14 0), .ref (ad 2009), .ref (ad 2010), .int (S 15 0), .int (S 16 0), .int (0)])) from hM.o) rfl hiRX6 7 (by decide) (hts (.fieldLink RX6 55 "UndoCellarModel" "changes" "I") (by decide +kernel)) (fun _ h9 => h9) rfl dX6_records_6 ?_
  refine lv_aload_n hx hb dX6_records_9 rfl (lv_at hl 0 rfl) ?_
  refine kk_get hx hb hts hown hE hW (show w1 2000 = some (.inr (7, [.ref (ad 2001), .int (S 10 0), .int (S 11 0), .int (S 12 0), .ref (ad 2002), .ref (ad 2003), .ref (ad 2004), .int (S 13 0), .ref (ad 2005), .ref (ad 2006), .ref (ad 2007), .ref (ad 2008), .int (S 14 0), .ref (ad 2009), .ref (ad 2010), .int (S 15 0), .int (S 16 0), .int (0)])) from hM.o) rfl hiRX6 12 (by decide) (hts (.fieldLink RX6 58 "UndoCellarModel" "dropped" "I") (by decide +kernel)) (fun _ h9 => h9) rfl dX6_records_10 ?_
  refine lv_isub hx hb dX6_records_13 ?_
  exact ke_i hx hb hr hlocks (Nat.le_of_ble_eq_true rfl) (Nat.le_of_ble_eq_true rfl) dX6_records_14 hW (⟨rfl, rfl, hM⟩)

set_option maxHeartbeats 4000000 in
set_option maxRecDepth 100000 in
/-- c_dropped -/
theorem c_dropped (l : Launch) (D : va_G) (A : Nat → Prop) (ad : Nat → Nat) (w : kWd) (S : St) (hM : MW D S ad w w)  : Met l yX6_dropped wsX6_dropped ({ frames := 0, cells := 0, slots := 0, locals := 0 }) (kPc D A [.ref (ad 2000)] ad w) (kQi D A (fun v ad' w' => v = S 14 0 ∧ ad' = ad ∧ MW D (sS S 17 0) ad w w')) 0 0 A := by
  refine Met.ofW (cc := cX6_dropped) (maxL := 1) (ret := (some (.int))) (by decide) rfl ?_
  intro p e s m args below meth c s₁ B hml hv
  obtain ⟨rfl, hE, hW0, hI0, hA⟩ := hv
  have hx := B.exec
  have hb := B.bytes
  have hr := B.returns
  have hts := atoms_spec (ws := wsX6_dropped) B.pre
  have hown : s.vm.findClass RX6 = some m.cls := findClass_of_methodNamed B.named
  have hlocks := B.notSynchronized
  have hiRX6 : ∀ w ∈ wsX60, w ∈ wsX6_dropped := by decide +kernel
  have hW : kS D A s.heap ad w s.heap [] := ⟨hW0, hI0, va_S.rf, hA⟩
  have hl := lv_entry ([.ref (ad 2000)]) (n := 1) (Nat.le_of_ble_eq_true rfl)
  rw [lg_entry_eq]
  generalize (lg_sl ([.ref (ad 2000)]) ++ List.replicate (1 - (lg_sl ([.ref (ad 2000)])).length) Slot.unset).toArray = ls at hl ⊢
  have hl : lv_has ls 1 [(0, .ref (ad 2000))] := hl
  refine lv_aload_n hx hb dX6_dropped_0 rfl (lv_at hl 0 rfl) ?_
  refine lv_iconst (v := 0) hx hb dX6_dropped_1 (by decide) ?_
  refine kk_put hx hb hts hown hE hW hM.o rfl hiRX6 tyX6 tyX6_ok nmX6 17 (by decide) (hts (.fieldLink RX6 45 "UndoCellarModel" "thrown" "I") (by decide +kernel)) (fun _ h9 => h9) rfl (ty := tyX6 17) (tyX6_ok 17 (by decide)) rfl rfl (Nat.le_of_ble_eq_true rfl) dX6_dropped_2 (fun H3 locs w1 e2 hW => ?_)
  have hM := hM.s17 e2
  refine lv_aload_n hx hb dX6_dropped_5 rfl (lv_at hl 0 rfl) ?_
  refine kk_get hx hb hts hown hE hW (show w1 2000 = some (.inr (7, [.ref (ad 2001), .int (S 10 0), .int (S 11 0), .int (S 12 0), .ref (ad 2002), .ref (ad 2003), .ref (ad 2004), .int (S 13 0), .ref (ad 2005), .ref (ad 2006), .ref (ad 2007), .ref (ad 2008), .int (S 14 0), .ref (ad 2009), .ref (ad 2010), .int (S 15 0), .int (S 16 0), .int (0)])) from hM.o) rfl hiRX6 12 (by decide) (hts (.fieldLink RX6 58 "UndoCellarModel" "dropped" "I") (by decide +kernel)) (fun _ h9 => h9) rfl dX6_dropped_6 ?_
  exact ke_i hx hb hr hlocks (Nat.le_of_ble_eq_true rfl) (Nat.le_of_ble_eq_true rfl) dX6_dropped_9 hW (⟨rfl, rfl, hM⟩)

set_option maxHeartbeats 4000000 in
set_option maxRecDepth 100000 in
/-- c_now -/
theorem c_now (l : Launch) (D : va_G) (A : Nat → Prop) (ad : Nat → Nat) (w : kWd) (S : St) (hM : MW D S ad w w) (r : Int32) : Met l yX6_now wsX6_now ({ frames := 2, cells := 0, slots := 0, locals := 42 }) (kPc D A [.ref (ad 2000), .int r] ad w) (kQi D A (fun v ad' w' => v = noR S r ∧ ad' = ad ∧ MW D (sS S 17 (noK r)) ad w w')) 0 0 A := by
  refine Met.ofW (cc := cX6_now) (maxL := 2) (ret := (some (.int))) (by decide) rfl ?_
  intro p e s m args below meth c s₁ B hml hv
  obtain ⟨rfl, hE, hW0, hI0, hA⟩ := hv
  have hx := B.exec
  have hb := B.bytes
  have hr := B.returns
  have hts := atoms_spec (ws := wsX6_now) B.pre
  have hown : s.vm.findClass RX6 = some m.cls := findClass_of_methodNamed B.named
  have hlocks := B.notSynchronized
  have hiRX6 : ∀ w ∈ wsX60, w ∈ wsX6_now := by decide +kernel
  have hW : kS D A s.heap ad w s.heap [] := ⟨hW0, hI0, va_S.rf, hA⟩
  have hl := lv_entry ([.ref (ad 2000), .int r]) (n := 2) (Nat.le_of_ble_eq_true rfl)
  rw [lg_entry_eq]
  generalize (lg_sl ([.ref (ad 2000), .int r]) ++ List.replicate (2 - (lg_sl ([.ref (ad 2000), .int r])).length) Slot.unset).toArray = ls at hl ⊢
  have hl : lv_has ls 2 [(0, .ref (ad 2000)), (1, .int r)] := hl
  refine lv_aload_n hx hb dX6_now_0 rfl (lv_at hl 0 rfl) ?_
  refine lv_iload_n hx hb dX6_now_1 rfl (lv_at hl 1 rfl) ?_
  refine W_joinH (D := D) (A := A) (w := w) (ad := ad) (P := fun v => v = noK r) (pj := 13) (rj := [.ref (ad 2000)]) (lj := ls) (fun v H1 locs hv hW => ?_) (fun J13 => ?_)
  · subst hv
    refine kk_i (va_runV (As := [.int (noK r)]) (rest := []) ⟨hx, hb, hml, hown, hts⟩ (c_can l D A ad w (S) hM.re (noK r)) (cwV 1 hts gX6_now_X6_can rfl rfl rfl (by decide +kernel) ⟨Nat.le_of_ble_eq_true rfl, Nat.le_of_ble_eq_true rfl⟩) (kV hE hW hM.o rfl _) rfl rfl hl.1 rfl (lv_room (Nat.le_of_ble_eq_true rfl)) dX6_now_13 ⟨Nat.le_of_ble_eq_true rfl, Nat.le_of_ble_eq_true rfl⟩) hW (fun r5 ad2 w3 H6 locs hp4 hW => ?_)
    obtain ⟨e7, e8, e9⟩ := hp4
    rw [e8] at hW
    have hM := hM.tr e9
    subst e7
    refine lv_if_eq (tgt := 28) hx hb dX6_now_16 (by decide) (fun c10 => ?_) (fun c10 => ?_)
    · refine lv_iconst (v := 0) hx hb dX6_now_28 (by decide) ?_
      exact ke_i hx hb hr hlocks (Nat.le_of_ble_eq_true rfl) (Nat.le_of_ble_eq_true rfl) dX6_now_29 hW (⟨(if_neg (bI_f c10)).symm, rfl, hM⟩)
    · have ho := bI_t c10
      have hro9 : roP r := by
        refine Decidable.byContradiction fun q => ?_
        rw [show noK r = 1 from if_neg q] at ho
        exact absurd ho (by decide)
      have hv12 : vp_in r 12 := by
        obtain ⟨j, h1, rfl⟩ := inP_N (n := 11) (by decide) (hro9)
        exact vp_in_nI (by omega) (by decide)
      refine lv_aload_n hx hb dX6_now_19 rfl (lv_at hl 0 rfl) ?_
      refine kk_get hx hb hts hown hE hW hM.o rfl hiRX6 0 (by decide) (hts (.fieldLink RX6 7 "UndoCellarModel" "value" "[I") (by decide +kernel)) (fun _ h9 => h9) rfl dX6_now_20 ?_
      refine lv_iload_n hx hb dX6_now_23 rfl (lv_at hl 1 rfl) ?_
      refine kk_iald hx hb hE hW hM.a0 hv12 dX6_now_24 ?_
      refine lv_goto (tgt := 29) hx hb dX6_now_25 (by decide) ?_
      exact ke_i hx hb hr hlocks (Nat.le_of_ble_eq_true rfl) (Nat.le_of_ble_eq_true rfl) dX6_now_29 hW (⟨(if_pos ho).symm, rfl, hM⟩)
  · refine kk_i (va_runS (As := [.int r]) (rest := [.ref (ad 2000)]) ⟨hx, hb, hml, hown, hts⟩ (c_isRow l D A ad w r) (va_cwS 1 hts gX6_now_X6_isRow rfl rfl rfl (by decide +kernel) ⟨Nat.le_of_ble_eq_true rfl, Nat.le_of_ble_eq_true rfl⟩) (kSt hE hW _) rfl rfl hl.1 rfl (lv_room (Nat.le_of_ble_eq_true rfl)) dX6_now_2 ⟨Nat.le_of_ble_eq_true rfl, Nat.le_of_ble_eq_true rfl⟩) hW (fun r14 ad11 w12 H15 locs hp13 hW => ?_)
    obtain ⟨e16, e17, e18⟩ := hp13
    rw [e17, e18] at hW
    subst e16
    refine lv_if_eq (tgt := 12) hx hb dX6_now_5 (by decide) (fun c19 => ?_) (fun c19 => ?_)
    · refine lv_iconst (v := 1) hx hb dX6_now_12 (by decide) ?_
      exact J13 _ _ _ ((if_neg (bI_f c19)).symm) hW
    · refine lv_iconst (v := 0) hx hb dX6_now_8 (by decide) ?_
      refine lv_goto (tgt := 13) hx hb dX6_now_9 (by decide) ?_
      exact J13 _ _ _ ((if_pos (bI_t c19)).symm) hW

set_option maxHeartbeats 4000000 in
set_option maxRecDepth 100000 in
/-- c_lockOf -/
theorem c_lockOf (l : Launch) (D : va_G) (A : Nat → Prop) (ad : Nat → Nat) (w : kWd) (S : St) (hM : MW D S ad w w) (r : Int32) (nC : Nat) (hC : S 13 0 = nI nC) (hn : nC ≤ 2000) (hby : ∀ k, k < nC → vp_in (S 4 k) 60)  : Met l yX6_lockOf wsX6_lockOf ({ frames := 2, cells := 0, slots := 0, locals := 44 }) (kPc D A [.ref (ad 2000), .int r] ad w) (kQi D A (fun v ad' w' => v = loR S r ∧ ad' = ad ∧ MW D (sS S 17 (noK r)) ad w w')) 0 0 A := by
  refine Met.ofW (cc := cX6_lockOf) (maxL := 2) (ret := (some (.int))) (by decide) rfl ?_
  intro p e s m args below meth c s₁ B hml hv
  obtain ⟨rfl, hE, hW0, hI0, hA⟩ := hv
  have hx := B.exec
  have hb := B.bytes
  have hr := B.returns
  have hts := atoms_spec (ws := wsX6_lockOf) B.pre
  have hown : s.vm.findClass RX6 = some m.cls := findClass_of_methodNamed B.named
  have hlocks := B.notSynchronized
  have hW : kS D A s.heap ad w s.heap [] := ⟨hW0, hI0, va_S.rf, hA⟩
  have hl := lv_entry ([.ref (ad 2000), .int r]) (n := 2) (Nat.le_of_ble_eq_true rfl)
  rw [lg_entry_eq]
  generalize (lg_sl ([.ref (ad 2000), .int r]) ++ List.replicate (2 - (lg_sl ([.ref (ad 2000), .int r])).length) Slot.unset).toArray = ls at hl ⊢
  have hl : lv_has ls 2 [(0, .ref (ad 2000)), (1, .int r)] := hl
  refine lv_aload_n hx hb dX6_lockOf_0 rfl (lv_at hl 0 rfl) ?_
  refine lv_iload_n hx hb dX6_lockOf_1 rfl (lv_at hl 1 rfl) ?_
  refine W_joinH (D := D) (A := A) (w := w) (ad := ad) (P := fun v => v = noK r) (pj := 13) (rj := [.ref (ad 2000)]) (lj := ls) (fun v H1 locs hv hW => ?_) (fun J13 => ?_)
  · subst hv
    refine kk_i (va_runV (As := [.int (noK r)]) (rest := []) ⟨hx, hb, hml, hown, hts⟩ (c_can l D A ad w (S) hM.re (noK r)) (cwV 1 hts gX6_lockOf_X6_can rfl rfl rfl (by decide +kernel) ⟨Nat.le_of_ble_eq_true rfl, Nat.le_of_ble_eq_true rfl⟩) (kV hE hW hM.o rfl _) rfl rfl hl.1 rfl (lv_room (Nat.le_of_ble_eq_true rfl)) dX6_lockOf_13 ⟨Nat.le_of_ble_eq_true rfl, Nat.le_of_ble_eq_true rfl⟩) hW (fun r5 ad2 w3 H6 locs hp4 hW => ?_)
    obtain ⟨e7, e8, e9⟩ := hp4
    rw [e8] at hW
    have hM := hM.tr e9
    subst e7
    refine lv_if_eq (tgt := 27) hx hb dX6_lockOf_16 (by decide) (fun c10 => ?_) (fun c10 => ?_)
    · refine lv_iconst (v := 0) hx hb dX6_lockOf_27 (by decide) ?_
      exact ke_i hx hb hr hlocks (Nat.le_of_ble_eq_true rfl) (Nat.le_of_ble_eq_true rfl) dX6_lockOf_28 hW (⟨(if_neg (bI_f c10)).symm, rfl, hM⟩)
    · refine lv_aload_n hx hb dX6_lockOf_19 rfl (lv_at hl 0 rfl) ?_
      refine lv_iload_n hx hb dX6_lockOf_20 rfl (lv_at hl 1 rfl) ?_
      refine kk_i (va_runV (As := [.int r]) (rest := []) ⟨hx, hb, hml, hown, hts⟩ (c_lockOn l D A ad w3 ((sS S 17 (noK r))) hM.re r nC hC hn hby) (cwV 1 hts gX6_lockOf_X6_lockOn rfl rfl rfl (by decide +kernel) ⟨Nat.le_of_ble_eq_true rfl, Nat.le_of_ble_eq_true rfl⟩) (kV hE hW hM.o rfl _) rfl rfl hl.1 rfl (lv_room (Nat.le_of_ble_eq_true rfl)) dX6_lockOf_21 ⟨Nat.le_of_ble_eq_true rfl, Nat.le_of_ble_eq_true rfl⟩) hW (fun r14 ad11 w12 H15 locs hp13 hW => ?_)
      obtain ⟨e16, e17, e18⟩ := hp13
      rw [e17, e18] at hW
      subst e16
      refine lv_goto (tgt := 28) hx hb dX6_lockOf_24 (by decide) ?_
      exact ke_i hx hb hr hlocks (Nat.le_of_ble_eq_true rfl) (Nat.le_of_ble_eq_true rfl) dX6_lockOf_28 hW (⟨(if_pos (bI_t c10)).symm, rfl, hM⟩)
  · refine kk_i (va_runS (As := [.int r]) (rest := [.ref (ad 2000)]) ⟨hx, hb, hml, hown, hts⟩ (c_isRow l D A ad w r) (va_cwS 1 hts gX6_lockOf_X6_isRow rfl rfl rfl (by decide +kernel) ⟨Nat.le_of_ble_eq_true rfl, Nat.le_of_ble_eq_true rfl⟩) (kSt hE hW _) rfl rfl hl.1 rfl (lv_room (Nat.le_of_ble_eq_true rfl)) dX6_lockOf_2 ⟨Nat.le_of_ble_eq_true rfl, Nat.le_of_ble_eq_true rfl⟩) hW (fun r22 ad19 w20 H23 locs hp21 hW => ?_)
    obtain ⟨e24, e25, e26⟩ := hp21
    rw [e25, e26] at hW
    subst e24
    refine lv_if_eq (tgt := 12) hx hb dX6_lockOf_5 (by decide) (fun c27 => ?_) (fun c27 => ?_)
    · refine lv_iconst (v := 1) hx hb dX6_lockOf_12 (by decide) ?_
      exact J13 _ _ _ ((if_neg (bI_f c27)).symm) hW
    · refine lv_iconst (v := 0) hx hb dX6_lockOf_8 (by decide) ?_
      refine lv_goto (tgt := 13) hx hb dX6_lockOf_9 (by decide) ?_
      exact J13 _ _ _ ((if_pos (bI_t c27)).symm) hW

set_option maxHeartbeats 4000000 in
set_option maxRecDepth 100000 in
/-- c_versionAt -/
theorem c_versionAt (l : Launch) (D : va_G) (A : Nat → Prop) (ad : Nat → Nat) (w : kWd) (S : St) (hM : MW D S ad w w) (mm r : Int32) (nC : Nat) (hC : S 13 0 = nI nC) (hn : nC ≤ 2000) (hby : ∀ k, k < nC → vp_in (S 4 k) 60)  : Met l yX6_versionAt wsX6_versionAt ({ frames := 2, cells := 0, slots := 0, locals := 42 }) (kPc D A [.ref (ad 2000), .int mm, .int r] ad w) (kQi D A (fun v ad' w' => v = vrR S mm r ∧ ad' = ad ∧ MW D (vrN S mm r) ad w w')) 0 0 A := by
  refine Met.ofW (cc := cX6_versionAt) (maxL := 3) (ret := (some (.int))) (by decide) rfl ?_
  intro p e s m args below meth c s₁ B hml hv
  obtain ⟨rfl, hE, hW0, hI0, hA⟩ := hv
  have hx := B.exec
  have hb := B.bytes
  have hr := B.returns
  have hts := atoms_spec (ws := wsX6_versionAt) B.pre
  have hown : s.vm.findClass RX6 = some m.cls := findClass_of_methodNamed B.named
  have hlocks := B.notSynchronized
  have hiRX6 : ∀ w ∈ wsX60, w ∈ wsX6_versionAt := by decide +kernel
  have hW : kS D A s.heap ad w s.heap [] := ⟨hW0, hI0, va_S.rf, hA⟩
  have hl := lv_entry ([.ref (ad 2000), .int mm, .int r]) (n := 3) (Nat.le_of_ble_eq_true rfl)
  rw [lg_entry_eq]
  generalize (lg_sl ([.ref (ad 2000), .int mm, .int r]) ++ List.replicate (3 - (lg_sl ([.ref (ad 2000), .int mm, .int r])).length) Slot.unset).toArray = ls at hl ⊢
  have hl : lv_has ls 3 [(0, .ref (ad 2000)), (1, .int mm), (2, .int r)] := hl
  refine lv_aload_n hx hb dX6_versionAt_0 rfl (lv_at hl 0 rfl) ?_
  refine lv_iload_n hx hb dX6_versionAt_1 rfl (lv_at hl 2 rfl) ?_
  refine W_joinH (D := D) (A := A) (w := w) (ad := ad) (P := fun v => v = vrK S mm r) (pj := 29) (rj := [.ref (ad 2000)]) (lj := ls) (fun v H1 locs hv hW => ?_) (fun J29 => ?_)
  · subst hv
    refine kk_i (va_runV (As := [.int (vrK S mm r)]) (rest := []) ⟨hx, hb, hml, hown, hts⟩ (c_can l D A ad w (S) hM.re (vrK S mm r)) (cwV 1 hts gX6_versionAt_X6_can rfl rfl rfl (by decide +kernel) ⟨Nat.le_of_ble_eq_true rfl, Nat.le_of_ble_eq_true rfl⟩) (kV hE hW hM.o rfl _) rfl rfl hl.1 rfl (lv_room (Nat.le_of_ble_eq_true rfl)) dX6_versionAt_29 ⟨Nat.le_of_ble_eq_true rfl, Nat.le_of_ble_eq_true rfl⟩) hW (fun r5 ad2 w3 H6 locs hp4 hW => ?_)
    obtain ⟨e7, e8, e9⟩ := hp4
    rw [e8] at hW
    have hM := hM.tr e9
    subst e7
    refine lv_if_eq (tgt := 45) hx hb dX6_versionAt_32 (by decide) (fun c10 => ?_) (fun c10 => ?_)
    · refine lv_iconst (v := 0) hx hb dX6_versionAt_45 (by decide) ?_
      exact ke_i hx hb hr hlocks (Nat.le_of_ble_eq_true rfl) (Nat.le_of_ble_eq_true rfl) dX6_versionAt_46 hW (⟨(if_neg (bI_f c10)).symm, rfl, by rw [show vrN S mm r = _ from if_neg (bI_f c10)]; exact hM⟩)
    · have ho := bI_t c10
      have hro9 : roP r := by
        refine Decidable.byContradiction fun q => ?_
        rw [show vrK S mm r = 1 from if_neg q] at ho
        exact absurd ho (by decide)
      have hv12 : vp_in r 12 := by
        obtain ⟨j, h1, rfl⟩ := inP_N (n := 11) (by decide) (hro9)
        exact vp_in_nI (by omega) (by decide)
      refine lv_aload_n hx hb dX6_versionAt_35 rfl (lv_at hl 0 rfl) ?_
      refine lv_iload_n hx hb dX6_versionAt_36 rfl (lv_at hl 1 rfl) ?_
      refine lv_iload_n hx hb dX6_versionAt_37 rfl (lv_at hl 2 rfl) ?_
      refine lv_iconst (v := (-1)) hx hb dX6_versionAt_38 (by decide) ?_
      refine kk_i (va_runV (As := [.int mm, .int r, .int (-1)]) (rest := []) ⟨hx, hb, hml, hown, hts⟩ (c_valueAt l D A ad w3 ((sS S 17 (vrK S mm r))) hM.re mm r (-1) hv12 nC hC hn hby) (cwV 3 hts gX6_versionAt_X6_valueAt rfl rfl rfl (by decide +kernel) ⟨Nat.le_of_ble_eq_true rfl, Nat.le_of_ble_eq_true rfl⟩) (kV hE hW hM.o rfl _) rfl rfl hl.1 rfl (lv_room (Nat.le_of_ble_eq_true rfl)) dX6_versionAt_39 ⟨Nat.le_of_ble_eq_true rfl, Nat.le_of_ble_eq_true rfl⟩) hW (fun r14 ad11 w12 H15 locs hp13 hW => ?_)
      obtain ⟨e16, e17, e18⟩ := hp13
      rw [e17] at hW
      have hM := hM.tr e18
      subst e16
      refine lv_goto (tgt := 46) hx hb dX6_versionAt_42 (by decide) ?_
      exact ke_i hx hb hr hlocks (Nat.le_of_ble_eq_true rfl) (Nat.le_of_ble_eq_true rfl) dX6_versionAt_46 hW (⟨(if_pos ho).symm, rfl, by rw [show vrN S mm r = _ from if_pos ho]; exact hM⟩)
  · refine kk_i (va_runS (As := [.int r]) (rest := [.ref (ad 2000)]) ⟨hx, hb, hml, hown, hts⟩ (c_isRow l D A ad w r) (va_cwS 1 hts gX6_versionAt_X6_isRow rfl rfl rfl (by decide +kernel) ⟨Nat.le_of_ble_eq_true rfl, Nat.le_of_ble_eq_true rfl⟩) (kSt hE hW _) rfl rfl hl.1 rfl (lv_room (Nat.le_of_ble_eq_true rfl)) dX6_versionAt_2 ⟨Nat.le_of_ble_eq_true rfl, Nat.le_of_ble_eq_true rfl⟩) hW (fun r22 ad19 w20 H23 locs hp21 hW => ?_)
    obtain ⟨e24, e25, e26⟩ := hp21
    rw [e25, e26] at hW
    subst e24
    refine lv_if_ne (tgt := 12) hx hb dX6_versionAt_5 (by decide) (fun c27 => ?_) (fun c27 => ?_)
    · refine lv_iload_n hx hb dX6_versionAt_12 rfl (lv_at hl 1 rfl) ?_
      refine lv_iconst (v := 0) hx hb dX6_versionAt_13 (by decide) ?_
      refine lv_aload_n hx hb dX6_versionAt_14 rfl (lv_at hl 0 rfl) ?_
      refine kk_get hx hb hts hown hE hW hM.o rfl hiRX6 2 (by decide) (hts (.fieldLink RX6 65 "UndoCellarModel" "moment" "I") (by decide +kernel)) (fun _ h9 => h9) rfl dX6_versionAt_15 ?_
      refine kk_i (va_runS (As := [.int mm, .int 0, .int (S 11 0)]) (rest := [.ref (ad 2000)]) ⟨hx, hb, hml, hown, hts⟩ (c_isIn l D A ad w mm 0 (S 11 0)) (va_cwS 3 hts gX6_versionAt_X6_isIn rfl rfl rfl (by decide +kernel) ⟨Nat.le_of_ble_eq_true rfl, Nat.le_of_ble_eq_true rfl⟩) (kSt hE hW _) rfl rfl hl.1 rfl (lv_room (Nat.le_of_ble_eq_true rfl)) dX6_versionAt_18 ⟨Nat.le_of_ble_eq_true rfl, Nat.le_of_ble_eq_true rfl⟩) hW (fun r31 ad28 w29 H32 locs hp30 hW => ?_)
      obtain ⟨e33, e34, e35⟩ := hp30
      rw [e34, e35] at hW
      subst e33
      refine lv_if_eq (tgt := 28) hx hb dX6_versionAt_21 (by decide) (fun c36 => ?_) (fun c36 => ?_)
      · refine lv_iconst (v := 2) hx hb dX6_versionAt_28 (by decide) ?_
        exact J29 _ _ _ (((if_pos (bI_t c27)).trans (if_neg (bI_f c36))).symm) hW
      · refine lv_iconst (v := 0) hx hb dX6_versionAt_24 (by decide) ?_
        refine lv_goto (tgt := 29) hx hb dX6_versionAt_25 (by decide) ?_
        exact J29 _ _ _ (((if_pos (bI_t c27)).trans (if_pos (bI_t c36))).symm) hW
    · refine lv_iconst (v := 1) hx hb dX6_versionAt_8 (by decide) ?_
      refine lv_goto (tgt := 29) hx hb dX6_versionAt_9 (by decide) ?_
      exact J29 _ _ _ ((if_neg (bI_f c27)).symm) hW

set_option maxHeartbeats 4000000 in
set_option maxRecDepth 100000 in
/-- c_isSlot -/
theorem c_isSlot (l : Launch) (D : va_G) (A : Nat → Prop) (ad : Nat → Nat) (w : kWd) (b k : Int32) : Met l yX6_isSlot wsX6_isSlot ({ frames := 1, cells := 0, slots := 0, locals := 22 }) (kPc D A [.int b, .int k] ad w) (kQi D A (fun v ad' w' => v = bI (slP b k) ∧ ad' = ad ∧ w' = w)) 0 0 A := by
  refine Met.ofW (cc := cX6_isSlot) (maxL := 2) (ret := (some (.boolean))) (by decide) rfl ?_
  intro p e s m args below meth c s₁ B hml hv
  obtain ⟨rfl, hE, hW0, hI0, hA⟩ := hv
  have hx := B.exec
  have hb := B.bytes
  have hr := B.returns
  have hts := atoms_spec (ws := wsX6_isSlot) B.pre
  have hown : s.vm.findClass RX6 = some m.cls := findClass_of_methodNamed B.named
  have hlocks := B.notSynchronized
  have hW : kS D A s.heap ad w s.heap [] := ⟨hW0, hI0, va_S.rf, hA⟩
  have hl := lv_entry ([.int b, .int k]) (n := 2) (Nat.le_of_ble_eq_true rfl)
  rw [lg_entry_eq]
  generalize (lg_sl ([.int b, .int k]) ++ List.replicate (2 - (lg_sl ([.int b, .int k])).length) Slot.unset).toArray = ls at hl ⊢
  have hl : lv_has ls 2 [(0, .int b), (1, .int k)] := hl
  refine lv_iload_n hx hb dX6_isSlot_0 rfl (lv_at hl 0 rfl) ?_
  refine lv_iconst (v := 0) hx hb dX6_isSlot_1 (by decide) ?_
  refine lv_iconst (v := 2) hx hb dX6_isSlot_2 (by decide) ?_
  refine kk_i (va_runS (As := [.int b, .int 0, .int 2]) (rest := []) ⟨hx, hb, hml, hown, hts⟩ (c_isIn l D A ad w b 0 2) (va_cwS 3 hts gX6_isSlot_X6_isIn rfl rfl rfl (by decide +kernel) ⟨Nat.le_of_ble_eq_true rfl, Nat.le_of_ble_eq_true rfl⟩) (kSt hE hW _) rfl rfl hl.1 rfl (lv_room (Nat.le_of_ble_eq_true rfl)) dX6_isSlot_3 ⟨Nat.le_of_ble_eq_true rfl, Nat.le_of_ble_eq_true rfl⟩) hW (fun r4 ad1 w2 H5 locs hp3 hW => ?_)
  obtain ⟨e6, e7, e8⟩ := hp3
  rw [e7, e8] at hW
  subst e6
  refine lv_if_eq (tgt := 22) hx hb dX6_isSlot_6 (by decide) (fun c9 => ?_) (fun c9 => ?_)
  · refine lv_iconst (v := 0) hx hb dX6_isSlot_22 (by decide) ?_
    exact ke_z hx hb hr hlocks (Nat.le_of_ble_eq_true rfl) (Nat.le_of_ble_eq_true rfl) dX6_isSlot_23 (by first | exact Or.inl rfl | exact Or.inr rfl | assumption) hW (⟨(bI_0 (fun q => (bI_f c9) q.1)).symm, rfl, rfl⟩)
  · refine lv_iload_n hx hb dX6_isSlot_9 rfl (lv_at hl 1 rfl) ?_
    refine lv_iconst (v := 0) hx hb dX6_isSlot_10 (by decide) ?_
    refine lv_iconst (v := 1) hx hb dX6_isSlot_11 (by decide) ?_
    refine kk_i (va_runS (As := [.int k, .int 0, .int 1]) (rest := []) ⟨hx, hb, hml, hown, hts⟩ (c_isIn l D A ad w k 0 1) (va_cwS 3 hts gX6_isSlot_X6_isIn rfl rfl rfl (by decide +kernel) ⟨Nat.le_of_ble_eq_true rfl, Nat.le_of_ble_eq_true rfl⟩) (kSt hE hW _) rfl rfl hl.1 rfl (lv_room (Nat.le_of_ble_eq_true rfl)) dX6_isSlot_12 ⟨Nat.le_of_ble_eq_true rfl, Nat.le_of_ble_eq_true rfl⟩) hW (fun r13 ad10 w11 H14 locs hp12 hW => ?_)
    obtain ⟨e15, e16, e17⟩ := hp12
    rw [e16, e17] at hW
    subst e15
    refine lv_if_eq (tgt := 22) hx hb dX6_isSlot_15 (by decide) (fun c18 => ?_) (fun c18 => ?_)
    · refine lv_iconst (v := 0) hx hb dX6_isSlot_22 (by decide) ?_
      exact ke_z hx hb hr hlocks (Nat.le_of_ble_eq_true rfl) (Nat.le_of_ble_eq_true rfl) dX6_isSlot_23 (by first | exact Or.inl rfl | exact Or.inr rfl | assumption) hW (⟨(bI_0 (fun q => (bI_f c18) q.2)).symm, rfl, rfl⟩)
    · refine lv_iconst (v := 1) hx hb dX6_isSlot_18 (by decide) ?_
      refine lv_goto (tgt := 23) hx hb dX6_isSlot_19 (by decide) ?_
      exact ke_z hx hb hr hlocks (Nat.le_of_ble_eq_true rfl) (Nat.le_of_ble_eq_true rfl) dX6_isSlot_23 (by first | exact Or.inl rfl | exact Or.inr rfl | assumption) hW (⟨(bI_1 ⟨bI_t c9, bI_t c18⟩).symm, rfl, rfl⟩)

set_option maxHeartbeats 4000000 in
set_option maxRecDepth 100000 in
/-- c_slotOf -/
theorem c_slotOf (l : Launch) (D : va_G) (A : Nat → Prop) (ad : Nat → Nat) (w : kWd) (S : St) (hM : MW D S ad w w) (b k : Int32) : Met l yX6_slotOf wsX6_slotOf ({ frames := 2, cells := 0, slots := 0, locals := 43 }) (kPc D A [.ref (ad 2000), .int b, .int k] ad w) (kQi D A (fun v ad' w' => v = soR S b k ∧ ad' = ad ∧ MW D (sS S 17 (soK b k)) ad w w')) 0 0 A := by
  refine Met.ofW (cc := cX6_slotOf) (maxL := 3) (ret := (some (.int))) (by decide) rfl ?_
  intro p e s m args below meth c s₁ B hml hv
  obtain ⟨rfl, hE, hW0, hI0, hA⟩ := hv
  have hx := B.exec
  have hb := B.bytes
  have hr := B.returns
  have hts := atoms_spec (ws := wsX6_slotOf) B.pre
  have hown : s.vm.findClass RX6 = some m.cls := findClass_of_methodNamed B.named
  have hlocks := B.notSynchronized
  have hiRX6 : ∀ w ∈ wsX60, w ∈ wsX6_slotOf := by decide +kernel
  have hW : kS D A s.heap ad w s.heap [] := ⟨hW0, hI0, va_S.rf, hA⟩
  have hl := lv_entry ([.ref (ad 2000), .int b, .int k]) (n := 3) (Nat.le_of_ble_eq_true rfl)
  rw [lg_entry_eq]
  generalize (lg_sl ([.ref (ad 2000), .int b, .int k]) ++ List.replicate (3 - (lg_sl ([.ref (ad 2000), .int b, .int k])).length) Slot.unset).toArray = ls at hl ⊢
  have hl : lv_has ls 3 [(0, .ref (ad 2000)), (1, .int b), (2, .int k)] := hl
  refine lv_aload_n hx hb dX6_slotOf_0 rfl (lv_at hl 0 rfl) ?_
  refine lv_iload_n hx hb dX6_slotOf_1 rfl (lv_at hl 1 rfl) ?_
  refine lv_iload_n hx hb dX6_slotOf_2 rfl (lv_at hl 2 rfl) ?_
  refine W_joinH (D := D) (A := A) (w := w) (ad := ad) (P := fun v => v = soK b k) (pj := 14) (rj := [.ref (ad 2000)]) (lj := ls) (fun v H1 locs hv hW => ?_) (fun J14 => ?_)
  · subst hv
    refine kk_i (va_runV (As := [.int (soK b k)]) (rest := []) ⟨hx, hb, hml, hown, hts⟩ (c_can l D A ad w (S) hM.re (soK b k)) (cwV 1 hts gX6_slotOf_X6_can rfl rfl rfl (by decide +kernel) ⟨Nat.le_of_ble_eq_true rfl, Nat.le_of_ble_eq_true rfl⟩) (kV hE hW hM.o rfl _) rfl rfl hl.1 rfl (lv_room (Nat.le_of_ble_eq_true rfl)) dX6_slotOf_14 ⟨Nat.le_of_ble_eq_true rfl, Nat.le_of_ble_eq_true rfl⟩) hW (fun r5 ad2 w3 H6 locs hp4 hW => ?_)
    obtain ⟨e7, e8, e9⟩ := hp4
    rw [e8] at hW
    have hM := hM.tr e9
    subst e7
    refine lv_if_eq (tgt := 33) hx hb dX6_slotOf_17 (by decide) (fun c10 => ?_) (fun c10 => ?_)
    · refine lv_iconst (v := 0) hx hb dX6_slotOf_33 (by decide) ?_
      exact ke_i hx hb hr hlocks (Nat.le_of_ble_eq_true rfl) (Nat.le_of_ble_eq_true rfl) dX6_slotOf_34 hW (⟨(if_neg (bI_f c10)).symm, rfl, hM⟩)
    · have ho := bI_t c10
      have hs9 : slP b k := by
        refine Decidable.byContradiction fun q => ?_
        rw [show soK b k = 1 from if_neg q] at ho
        exact absurd ho (by decide)
      have hv6 : vp_in (2 * b + k) 6 := by
        obtain ⟨i, h1, rfl⟩ := inP_N (n := 2) (by decide) hs9.1
        obtain ⟨j, h2, rfl⟩ := inP_N (n := 1) (by decide) hs9.2
        rw [nI_2, nI_add]
        exact vp_in_nI (by omega) (by decide)
      refine lv_aload_n hx hb dX6_slotOf_20 rfl (lv_at hl 0 rfl) ?_
      refine kk_get hx hb hts hown hE hW hM.o rfl hiRX6 13 (by decide) (hts (.fieldLink RX6 39 "UndoCellarModel" "slot" "[I") (by decide +kernel)) (fun _ h9 => h9) rfl dX6_slotOf_21 ?_
      refine lv_iconst (v := 2) hx hb dX6_slotOf_24 (by decide) ?_
      refine lv_iload_n hx hb dX6_slotOf_25 rfl (lv_at hl 1 rfl) ?_
      refine lv_imul hx hb dX6_slotOf_26 ?_
      refine lv_iload_n hx hb dX6_slotOf_27 rfl (lv_at hl 2 rfl) ?_
      refine lv_iadd hx hb dX6_slotOf_28 ?_
      refine kk_iald hx hb hE hW hM.a8 hv6 dX6_slotOf_29 ?_
      refine lv_goto (tgt := 34) hx hb dX6_slotOf_30 (by decide) ?_
      exact ke_i hx hb hr hlocks (Nat.le_of_ble_eq_true rfl) (Nat.le_of_ble_eq_true rfl) dX6_slotOf_34 hW (⟨(if_pos ho).symm, rfl, hM⟩)
  · refine kk_i (va_runS (As := [.int b, .int k]) (rest := [.ref (ad 2000)]) ⟨hx, hb, hml, hown, hts⟩ (c_isSlot l D A ad w b k) (va_cwS 2 hts gX6_slotOf_X6_isSlot rfl rfl rfl (by decide +kernel) ⟨Nat.le_of_ble_eq_true rfl, Nat.le_of_ble_eq_true rfl⟩) (kSt hE hW _) rfl rfl hl.1 rfl (lv_room (Nat.le_of_ble_eq_true rfl)) dX6_slotOf_3 ⟨Nat.le_of_ble_eq_true rfl, Nat.le_of_ble_eq_true rfl⟩) hW (fun r14 ad11 w12 H15 locs hp13 hW => ?_)
    obtain ⟨e16, e17, e18⟩ := hp13
    rw [e17, e18] at hW
    subst e16
    refine lv_if_eq (tgt := 13) hx hb dX6_slotOf_6 (by decide) (fun c19 => ?_) (fun c19 => ?_)
    · refine lv_iconst (v := 1) hx hb dX6_slotOf_13 (by decide) ?_
      exact J14 _ _ _ ((if_neg (bI_f c19)).symm) hW
    · refine lv_iconst (v := 0) hx hb dX6_slotOf_9 (by decide) ?_
      refine lv_goto (tgt := 14) hx hb dX6_slotOf_10 (by decide) ?_
      exact J14 _ _ _ ((if_pos (bI_t c19)).symm) hW

set_option maxHeartbeats 4000000 in
set_option maxRecDepth 100000 in
/-- c_isMarked -/
theorem c_isMarked (l : Launch) (D : va_G) (A : Nat → Prop) (ad : Nat → Nat) (w : kWd) (S : St) (hM : MW D S ad w w) (b k : Int32) : Met l yX6_isMarked wsX6_isMarked ({ frames := 2, cells := 0, slots := 0, locals := 43 }) (kPc D A [.ref (ad 2000), .int b, .int k] ad w) (kQi D A (fun v ad' w' => v = imR S b k ∧ ad' = ad ∧ MW D (sS S 17 (soK b k)) ad w w')) 0 0 A := by
  refine Met.ofW (cc := cX6_isMarked) (maxL := 3) (ret := (some (.boolean))) (by decide) rfl ?_
  intro p e s m args below meth c s₁ B hml hv
  obtain ⟨rfl, hE, hW0, hI0, hA⟩ := hv
  have hx := B.exec
  have hb := B.bytes
  have hr := B.returns
  have hts := atoms_spec (ws := wsX6_isMarked) B.pre
  have hown : s.vm.findClass RX6 = some m.cls := findClass_of_methodNamed B.named
  have hlocks := B.notSynchronized
  have hiRX6 : ∀ w ∈ wsX60, w ∈ wsX6_isMarked := by decide +kernel
  have hW : kS D A s.heap ad w s.heap [] := ⟨hW0, hI0, va_S.rf, hA⟩
  have hl := lv_entry ([.ref (ad 2000), .int b, .int k]) (n := 3) (Nat.le_of_ble_eq_true rfl)
  rw [lg_entry_eq]
  generalize (lg_sl ([.ref (ad 2000), .int b, .int k]) ++ List.replicate (3 - (lg_sl ([.ref (ad 2000), .int b, .int k])).length) Slot.unset).toArray = ls at hl ⊢
  have hl : lv_has ls 3 [(0, .ref (ad 2000)), (1, .int b), (2, .int k)] := hl
  refine lv_aload_n hx hb dX6_isMarked_0 rfl (lv_at hl 0 rfl) ?_
  refine lv_iload_n hx hb dX6_isMarked_1 rfl (lv_at hl 1 rfl) ?_
  refine lv_iload_n hx hb dX6_isMarked_2 rfl (lv_at hl 2 rfl) ?_
  refine W_joinH (D := D) (A := A) (w := w) (ad := ad) (P := fun v => v = soK b k) (pj := 14) (rj := [.ref (ad 2000)]) (lj := ls) (fun v H1 locs hv hW => ?_) (fun J14 => ?_)
  · subst hv
    refine kk_i (va_runV (As := [.int (soK b k)]) (rest := []) ⟨hx, hb, hml, hown, hts⟩ (c_can l D A ad w (S) hM.re (soK b k)) (cwV 1 hts gX6_isMarked_X6_can rfl rfl rfl (by decide +kernel) ⟨Nat.le_of_ble_eq_true rfl, Nat.le_of_ble_eq_true rfl⟩) (kV hE hW hM.o rfl _) rfl rfl hl.1 rfl (lv_room (Nat.le_of_ble_eq_true rfl)) dX6_isMarked_14 ⟨Nat.le_of_ble_eq_true rfl, Nat.le_of_ble_eq_true rfl⟩) hW (fun r5 ad2 w3 H6 locs hp4 hW => ?_)
    obtain ⟨e7, e8, e9⟩ := hp4
    rw [e8] at hW
    have hM := hM.tr e9
    subst e7
    refine lv_if_eq (tgt := 37) hx hb dX6_isMarked_17 (by decide) (fun c10 => ?_) (fun c10 => ?_)
    · refine lv_iconst (v := 0) hx hb dX6_isMarked_37 (by decide) ?_
      exact ke_z hx hb hr hlocks (Nat.le_of_ble_eq_true rfl) (Nat.le_of_ble_eq_true rfl) dX6_isMarked_38 (by first | exact Or.inl rfl | exact Or.inr rfl | assumption) hW (⟨(bI_0 (fun q => (bI_f c10) q.1)).symm, rfl, hM⟩)
    · have ho := bI_t c10
      have hs9 : slP b k := by
        refine Decidable.byContradiction fun q => ?_
        rw [show soK b k = 1 from if_neg q] at ho
        exact absurd ho (by decide)
      have hv6 : vp_in (2 * b + k) 6 := by
        obtain ⟨i, h1, rfl⟩ := inP_N (n := 2) (by decide) hs9.1
        obtain ⟨j, h2, rfl⟩ := inP_N (n := 1) (by decide) hs9.2
        rw [nI_2, nI_add]
        exact vp_in_nI (by omega) (by decide)
      refine lv_aload_n hx hb dX6_isMarked_20 rfl (lv_at hl 0 rfl) ?_
      refine kk_get hx hb hts hown hE hW hM.o rfl hiRX6 14 (by decide) (hts (.fieldLink RX6 42 "UndoCellarModel" "isEnded" "[Z") (by decide +kernel)) (fun _ h9 => h9) rfl dX6_isMarked_21 ?_
      refine lv_iconst (v := 2) hx hb dX6_isMarked_24 (by decide) ?_
      refine lv_iload_n hx hb dX6_isMarked_25 rfl (lv_at hl 1 rfl) ?_
      refine lv_imul hx hb dX6_isMarked_26 ?_
      refine lv_iload_n hx hb dX6_isMarked_27 rfl (lv_at hl 2 rfl) ?_
      refine lv_iadd hx hb dX6_isMarked_28 ?_
      refine kk_zald hx hb hE hW hM.a9 hv6 dX6_isMarked_29 ?_
      refine lv_if_eq (tgt := 37) hx hb dX6_isMarked_30 (by decide) (fun c11 => ?_) (fun c11 => ?_)
      · refine lv_iconst (v := 0) hx hb dX6_isMarked_37 (by decide) ?_
        exact ke_z hx hb hr hlocks (Nat.le_of_ble_eq_true rfl) (Nat.le_of_ble_eq_true rfl) dX6_isMarked_38 (by first | exact Or.inl rfl | exact Or.inr rfl | assumption) hW (⟨(bI_0 (fun q => q.2 c11)).symm, rfl, hM⟩)
      · refine lv_iconst (v := 1) hx hb dX6_isMarked_33 (by decide) ?_
        refine lv_goto (tgt := 38) hx hb dX6_isMarked_34 (by decide) ?_
        exact ke_z hx hb hr hlocks (Nat.le_of_ble_eq_true rfl) (Nat.le_of_ble_eq_true rfl) dX6_isMarked_38 (by first | exact Or.inl rfl | exact Or.inr rfl | assumption) hW (⟨(bI_1 ⟨ho, c11⟩).symm, rfl, hM⟩)
  · refine kk_i (va_runS (As := [.int b, .int k]) (rest := [.ref (ad 2000)]) ⟨hx, hb, hml, hown, hts⟩ (c_isSlot l D A ad w b k) (va_cwS 2 hts gX6_isMarked_X6_isSlot rfl rfl rfl (by decide +kernel) ⟨Nat.le_of_ble_eq_true rfl, Nat.le_of_ble_eq_true rfl⟩) (kSt hE hW _) rfl rfl hl.1 rfl (lv_room (Nat.le_of_ble_eq_true rfl)) dX6_isMarked_3 ⟨Nat.le_of_ble_eq_true rfl, Nat.le_of_ble_eq_true rfl⟩) hW (fun r15 ad12 w13 H16 locs hp14 hW => ?_)
    obtain ⟨e17, e18, e19⟩ := hp14
    rw [e18, e19] at hW
    subst e17
    refine lv_if_eq (tgt := 13) hx hb dX6_isMarked_6 (by decide) (fun c20 => ?_) (fun c20 => ?_)
    · refine lv_iconst (v := 1) hx hb dX6_isMarked_13 (by decide) ?_
      exact J14 _ _ _ ((if_neg (bI_f c20)).symm) hW
    · refine lv_iconst (v := 0) hx hb dX6_isMarked_9 (by decide) ?_
      refine lv_goto (tgt := 14) hx hb dX6_isMarked_10 (by decide) ?_
      exact J14 _ _ _ ((if_pos (bI_t c20)).symm) hW

