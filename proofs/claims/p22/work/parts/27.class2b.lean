/-! the class: locks, records, undoing -/
set_option maxHeartbeats 4000000 in
set_option maxRecDepth 100000 in
/-- k_X1_takeBack -/
theorem k_X1_takeBack (l : Launch) (D : va_G) (A : Nat → Prop) (ad : Nat → Nat) (w : kWd) (S : St) (nT nC nD nM nZ : Nat) (hC : CW D S ad w nT nC) (hN : SN S nT nC nD nM nZ) (k : Nat) (hk : k < nC) (h7 : S 7 k = 0) : Met l yX1_takeBack wsX1_takeBack ({ frames := 0, cells := 0, slots := 0, locals := 0 }) (kPc D A [.ref (ad (ckey k))] ad w) (kQv D A (fun ad' w' => ad' = ad ∧ CW D (un1 S k) ad w' nT nC ∧ FrC ad w ad w')) 0 0 A := by
  refine Met.ofW (cc := cX1_takeBack) (maxL := 1) (ret := none) (by decide) rfl ?_
  intro p e s m args below meth c s₁ B hml hv
  obtain ⟨rfl, hE, hW0, hI0, hA⟩ := hv
  have hx := B.exec
  have hb := B.bytes
  have hr := B.returns
  have hts := atoms_spec (ws := wsX1_takeBack) B.pre
  have hown : s.vm.findClass RX1 = some m.cls := findClass_of_methodNamed B.named
  have hlocks := B.notSynchronized
  have hiRX1 : ∀ w ∈ wsX10, w ∈ wsX1_takeBack := by decide +kernel
  have hiRX2 : ∀ w ∈ wsX20, w ∈ wsX1_takeBack := by decide +kernel
  have hiRX4 : ∀ w ∈ wsX40, w ∈ wsX1_takeBack := by decide +kernel
  have hW : kS D A s.heap ad w s.heap [] := ⟨hW0, hI0, va_S.rf, hA⟩
  have hl := lv_entry ([.ref (ad (ckey k))]) (n := 1) (Nat.le_of_ble_eq_true rfl)
  rw [lg_entry_eq]
  generalize (lg_sl ([.ref (ad (ckey k))]) ++ List.replicate (1 - (lg_sl ([.ref (ad (ckey k))])).length) Slot.unset).toArray = ls at hl ⊢
  have hl : lv_has ls 1 [(0, .ref (ad (ckey k)))] := hl
  have h60 := hN.2.2.2.2.2.1
  have h512 := hN.2.2.2.2.2.2.1
  obtain ⟨t, ht, h4⟩ := hN.by hk
  obtain ⟨r, hr0, h5⟩ := hN.ro hk
  have hcc := hC.cc hk h4 (by omega) h5 hr0
  refine lv_aload_n hx hb dX1_takeBack_0 rfl (lv_at hl 0 rfl) ?_
  refine kk_get hx hb hts hown hE hW hcc rfl hiRX1 1 (by decide) (hts (.fieldLink RX1 17 "UndoCellar$Change" "row" "LUndoCellar$Row;") (by decide +kernel)) (fun _ h9 => h9) rfl dX1_takeBack_1 ?_
  refine lv_aload_n hx hb dX1_takeBack_4 rfl (lv_at hl 0 rfl) ?_
  refine kk_get hx hb hts hown hE hW hcc rfl hiRX1 2 (by decide) (hts (.fieldLink RX1 21 "UndoCellar$Change" "ahead" "I") (by decide +kernel)) (fun _ h9 => h9) rfl dX1_takeBack_5 ?_
  refine kk_putN hx hb hts hown hE hW (hC.r hr0) rfl hiRX2 tyX2 tyX2_ok nmX2 1 (by decide) (hE.N 6 rfl) (fun _ h9 => h9) rfl (ty := tyX2 1) (tyX2_ok 1 (by decide)) rfl rfl (Nat.le_of_ble_eq_true rfl) dX1_takeBack_8 (fun H3 locs w1 e2 hW => ?_)
  have f4 := (up_n e2 (by show 101 + 2 * k ≠ 24 + r; omega)).trans hcc
  have f5 := (up_n e2 (by show 100 + 2 * t ≠ 24 + r; omega)).trans (hC.t ht)
  have f6 := up_s e2
  refine lv_aload_n hx hb dX1_takeBack_11 rfl (lv_at hl 0 rfl) ?_
  refine lv_iconst (v := 1) hx hb dX1_takeBack_12 (by decide) ?_
  refine kk_put hx hb hts hown hE hW f4 rfl hiRX1 tyX1 tyX1_ok nmX1 3 (by decide) (hts (.fieldLink RX1 7 "UndoCellar$Change" "isVoid" "Z") (by decide +kernel)) (fun _ h9 => h9) rfl (ty := tyX1 3) (tyX1_ok 3 (by decide)) rfl rfl (Nat.le_of_ble_eq_true rfl) dX1_takeBack_13 (fun H9 locs w7 e8 hW => ?_)
  have f10 := (up_n e8 (by show 100 + 2 * t ≠ 101 + 2 * k; omega)).trans f5
  have f11 := (up_n e8 (by show 24 + r ≠ 101 + 2 * k; omega)).trans f6
  have f12 := up_s e8
  refine lv_aload_n hx hb dX1_takeBack_16 rfl (lv_at hl 0 rfl) ?_
  refine kk_get hx hb hts hown hE hW f12 rfl hiRX1 0 (by decide) (hts (.fieldLink RX1 13 "UndoCellar$Change" "transaction" "LUndoCellar$Transaction;") (by decide +kernel)) (fun _ h9 => h9) rfl dX1_takeBack_17 ?_
  refine lv_dup hx hb dX1_takeBack_20 rfl ?_
  refine kk_getN hx hb hts hown hE hW f10 rfl hiRX4 4 (by decide) (hE.N 13 rfl) (fun _ h9 => h9) rfl dX1_takeBack_21 ?_
  refine lv_iconst (v := 1) hx hb dX1_takeBack_24 (by decide) ?_
  refine lv_isub hx hb dX1_takeBack_25 ?_
  refine kk_putN hx hb hts hown hE hW f10 rfl hiRX4 tyX4 tyX4_ok nmX4 4 (by decide) (hE.N 13 rfl) (fun _ h9 => h9) rfl (ty := tyX4 4) (tyX4_ok 4 (by decide)) rfl rfl (Nat.le_of_ble_eq_true rfl) dX1_takeBack_26 (fun H15 locs w13 e14 hW => ?_)
  have f16 := (up_n e14 (by show 24 + r ≠ 100 + 2 * t; omega)).trans f11
  have f17 := (up_n e14 (by show 101 + 2 * k ≠ 100 + 2 * t; omega)).trans f12
  have f18 := up_s e14
  exact ke_v hx hb hr hlocks (Nat.le_of_ble_eq_true rfl) (Nat.le_of_ble_eq_true rfl) dX1_takeBack_29 hW (⟨rfl, hC.un h60 hk h4 (by omega) h5 hr0 h7 e2 e8 e14, ((FrC.rf.up e2 (by omega)).up e8 (by show 101 + 2 * k < 2000; omega)).up e14 (by show 100 + 2 * t < 2000; omega)⟩)

set_option maxHeartbeats 4000000 in
set_option maxRecDepth 100000 in
/-- k_X5_lockerOf -/
theorem k_X5_lockerOf (l : Launch) (D : va_G) (A : Nat → Prop) (ad : Nat → Nat) (w : kWd) (S : St) (nT nC nD nM nZ : Nat) (hC : CW D S ad w nT nC) (hN : SN S nT nC nD nM nZ) (r : Nat) (hr9 : r < 12) : Met l yX5_lockerOf wsX5_lockerOf ({ frames := 3, cells := 0, slots := 0, locals := 64 }) (kPc D A [.ref (ad 0), .ref (ad (24 + r))] ad w) (kQq D A (fun v ad' w' => v = lkO2 ad S (nI r) ∧ ad' = ad ∧ w' = w)) 0 0 A := by
  refine Met.ofW (cc := cX5_lockerOf) (maxL := 4) (ret := (some (.object "UndoCellar$Transaction"))) (by decide) rfl ?_
  intro p e s m args below meth c s₁ B hml hv
  obtain ⟨rfl, hE, hW0, hI0, hA⟩ := hv
  have hx := B.exec
  have hb := B.bytes
  have hr := B.returns
  have hts := atoms_spec (ws := wsX5_lockerOf) B.pre
  have hown : s.vm.findClass RX5 = some m.cls := findClass_of_methodNamed B.named
  have hlocks := B.notSynchronized
  have hiRX1 : ∀ w ∈ wsX10, w ∈ wsX5_lockerOf := by decide +kernel
  have hiRX4 : ∀ w ∈ wsX40, w ∈ wsX5_lockerOf := by decide +kernel
  have hiRX5 : ∀ w ∈ wsX50, w ∈ wsX5_lockerOf := by decide +kernel
  have hW : kS D A s.heap ad w s.heap [] := ⟨hW0, hI0, va_S.rf, hA⟩
  have hl := lv_entry ([.ref (ad 0), .ref (ad (24 + r))]) (n := 4) (Nat.le_of_ble_eq_true rfl)
  rw [lg_entry_eq]
  generalize (lg_sl ([.ref (ad 0), .ref (ad (24 + r))]) ++ List.replicate (4 - (lg_sl ([.ref (ad 0), .ref (ad (24 + r))])).length) Slot.unset).toArray = ls at hl ⊢
  have hl : lv_has ls 4 [(0, .ref (ad 0)), (1, .ref (ad (24 + r)))] := hl
  have h60 := hN.2.2.2.2.2.1
  have h512 := hN.2.2.2.2.2.2.1
  have hnv : nv (S 13 0) = nC := by rw [hN.2.1]; exact nv_nI (by omega)
  have loop : ∀ (n : Nat) (H : Heap) (locs : List Loc), n ≤ nC → lkL S (nI r) n = lkL S (nI r) nC → kS D A s.heap ad w H locs → ∀ ls, lv_has ls 4 [(2, .int (nI n - 1)), (0, .ref (ad 0)), (1, .ref (ad (24 + r)))] → W p l e ({ frames := 3, cells := 0, slots := 0, locals := 64 }) s m ([.ref (ad 0), .ref (ad (24 + r))] : List Value).toArray below meth c H locs 0 0 (MQ below (kQq D A (fun v ad' w' => v = lkO2 ad S (nI r) ∧ ad' = ad ∧ w' = w)) ([.ref (ad 0), .ref (ad (24 + r))] : List Value).toArray s 0 0 A) (F0 m 10 ls []) := by
    intro n
    induction n with
    | zero =>
      intro H locs hn9 he hW ls hl
      refine lv_iload_n hx hb dX5_lockerOf_10 rfl (lv_at hl 0 rfl) ?_
      refine lv_if_lt (tgt := 59) hx hb dX5_lockerOf_11 (by decide) (fun _ => ?_) (fun c9 => absurd (nI_m1) c9)
      refine lv_null hx hb dX5_lockerOf_59 ?_
      exact ke_q hx hb hr (Or.inl ⟨_, rfl⟩) hlocks (Nat.le_of_ble_eq_true rfl) (Nat.le_of_ble_eq_true rfl) dX5_lockerOf_60 (show _ = va_rf none from rfl) hW (⟨by unfold lkO2 lockV; rw [hnv, ← he]; rfl, rfl, rfl⟩)
    | succ n ih =>
      intro H locs hn9 he hW ls hl
      rw [nI_dn] at hl
      refine lv_iload_n hx hb dX5_lockerOf_10 rfl (lv_at hl 0 rfl) ?_
      refine lv_if_lt (tgt := 59) hx hb dX5_lockerOf_11 (by decide) (fun c9 => absurd c9 (nI_pos (by omega))) (fun _ => ?_)
      refine lv_aload_n hx hb dX5_lockerOf_14 rfl (lv_at hl 1 rfl) ?_
      refine kk_get hx hb hts hown hE hW hC.u rfl hiRX5 3 (by decide) (hts (.fieldLink RX5 28 "UndoCellar" "changes" "Ljava/util/ArrayList;") (by decide +kernel)) (fun _ h9 => h9) rfl dX5_lockerOf_15 ?_
      refine lv_iload_n hx hb dX5_lockerOf_18 rfl (lv_at hl 0 rfl) ?_
      obtain ⟨t, ht, h4⟩ := hN.by (k := n) (by omega)
      obtain ⟨r0, hr0, h5⟩ := hN.ro (k := n) (by omega)
      have hcc := hC.cc (k := n) (by omega) h4 (by omega) h5 hr0
      obtain ⟨_, _, _, ehL1, hL1, -⟩ := id hC.lc
      refine kk_q (va_runV (As := [.int (nI n)]) (rest := []) ⟨hx, hb, hml, hown, hts⟩ (c_get l D A ad w 4 6 nC ckey hC.lc (by have := hN.2.2.2.2.2.2.1; omega) n (by omega)) (cwV 1 hts gX5_lockerOf_Jx4a65c_get_915e3 rfl rfl rfl (by decide +kernel) ⟨Nat.le_of_ble_eq_true rfl, Nat.le_of_ble_eq_true rfl⟩) (kV hE hW hL1 rfl _) rfl rfl hl.1 rfl (lv_room (Nat.le_of_ble_eq_true rfl)) dX5_lockerOf_19 ⟨Nat.le_of_ble_eq_true rfl, Nat.le_of_ble_eq_true rfl⟩) hW (fun r5 ad2 w3 H6 locs hp4 hW => ?_)
      obtain ⟨e7, e8, e9⟩ := hp4
      rw [e8, e9] at hW
      subst e7
      refine W.eq (g2 := F0 m 22 ls [.ref (ad (ckey n))]) rfl ?_
      refine kk_cast hx hb hown (hts (.classLink RX5 126 "UndoCellar$Change") (by decide +kernel)) hE hW hcc rfl dX5_lockerOf_22 ?_
      refine lv_astore_n (lv' := [(3, .ref (ad (ckey n))), (2, .int (nI n)), (0, .ref (ad 0)), (1, .ref (ad (24 + r)))]) hx hb dX5_lockerOf_25 rfl hl (by decide) rfl (fun ls hl => ?_)
      refine lv_aload_n hx hb dX5_lockerOf_26 rfl (lv_at hl 0 rfl) ?_
      refine lv_aload_n hx hb dX5_lockerOf_27 rfl (lv_at hl 3 rfl) ?_
      refine kk_i (va_runVN (As := [.ref (ad (24 + r))]) (rest := []) ⟨hx, hb, hml, hown, hts⟩ (k_X1_stands l D A ad w S nT nC nD nM nZ hC hN n (by omega) r hr9) ⟨va_cnB 1 hts gX5_lockerOf_X1_stands_n227 rfl rfl rfl (hE.N 23 rfl) (hts (.initialized RX1) (by decide +kernel)) (by decide +kernel) ⟨Nat.le_of_ble_eq_true rfl, Nat.le_of_ble_eq_true rfl⟩, hts (.instanceMethod yX1_stands) (by decide +kernel), hts (.selects RX1 yX1_stands yX1_stands) (by decide +kernel)⟩ (kV hE hW hcc rfl _) rfl rfl hl.1 rfl (lv_room (Nat.le_of_ble_eq_true rfl)) dX5_lockerOf_28 ⟨Nat.le_of_ble_eq_true rfl, Nat.le_of_ble_eq_true rfl⟩) hW (fun r13 ad10 w11 H14 locs hp12 hW => ?_)
      obtain ⟨e15, e16, e17⟩ := hp12
      rw [e16, e17] at hW
      subst e15
      refine lv_if_eq (tgt := 53) hx hb dX5_lockerOf_31 (by decide) (fun c18 => ?_) (fun c18 => ?_)
      · refine lv_iinc (v := nI n - 1) (lv' := [(2, .int (nI n - 1)), (3, .ref (ad (ckey n))), (0, .ref (ad 0)), (1, .ref (ad (24 + r)))]) hx hb dX5_lockerOf_53 hl (k := 1) rfl (i_sub1 _) (by decide) rfl (fun ls hl => ?_)
        refine lv_goto (tgt := 10) hx hb dX5_lockerOf_56 (by decide) ?_
        exact ih _ _ (by omega) (by rw [← he]; exact lkL_n (bI_f c18)) hW ls (lv_sub hl [0, 2, 3] rfl)
      · have he4 : lkL S (nI r) nC = nI t := by rw [← he, ← h4]; exact (lkL_s (bI_t c18).1 (bI_t c18).2).symm
        refine lv_aload_n hx hb dX5_lockerOf_34 rfl (lv_at hl 0 rfl) ?_
        refine kk_getN hx hb hts hown hE hW hcc rfl hiRX1 0 (by decide) (hE.N 15 rfl) (fun _ h9 => h9) rfl dX5_lockerOf_35 ?_
        refine kk_getN hx hb hts hown hE hW (hC.t ht) rfl hiRX4 2 (by decide) (hE.N 11 rfl) (fun _ h9 => h9) rfl dX5_lockerOf_38 ?_
        refine lv_if_eq (tgt := 51) hx hb dX5_lockerOf_41 (by decide) (fun c19 => ?_) (fun c19 => ?_)
        · have hz : lkO2 ad S (nI r) = none := by
            unfold lkO2 lockV
            rw [hnv, he4, if_neg (show ¬ (nI t ≠ -1 ∧ actP S (nI t)) from fun q => (bI_f c19) (by have := q.2; unfold actP at this; rw [nv_nI (by omega)] at this; exact this))]
            rfl
          refine lv_null hx hb dX5_lockerOf_51 ?_
          exact ke_q hx hb hr (Or.inl ⟨_, rfl⟩) hlocks (Nat.le_of_ble_eq_true rfl) (Nat.le_of_ble_eq_true rfl) dX5_lockerOf_52 (show _ = va_rf none from rfl) hW (⟨hz.symm, rfl, rfl⟩)
        · have hz : lkO2 ad S (nI r) = some (ad (tkey t)) := by
            unfold lkO2 lockV
            rw [hnv, he4, if_pos (show nI t ≠ -1 ∧ actP S (nI t) from ⟨nI_nm1 (by omega), by unfold actP; rw [nv_nI (by omega)]; exact bI_t c19⟩), if_neg (nI_nm1 (by omega)), nv_nI (by omega)]
          refine lv_aload_n hx hb dX5_lockerOf_44 rfl (lv_at hl 0 rfl) ?_
          refine kk_getN hx hb hts hown hE hW hcc rfl hiRX1 0 (by decide) (hE.N 15 rfl) (fun _ h9 => h9) rfl dX5_lockerOf_45 ?_
          refine lv_goto (tgt := 52) hx hb dX5_lockerOf_48 (by decide) ?_
          exact ke_q hx hb hr (Or.inl ⟨_, rfl⟩) hlocks (Nat.le_of_ble_eq_true rfl) (Nat.le_of_ble_eq_true rfl) dX5_lockerOf_52 (show _ = va_rf (some (ad (tkey t))) from rfl) hW (⟨hz.symm, rfl, rfl⟩)
  refine lv_aload_n hx hb dX5_lockerOf_0 rfl (lv_at hl 0 rfl) ?_
  refine kk_get hx hb hts hown hE hW hC.u rfl hiRX5 3 (by decide) (hts (.fieldLink RX5 28 "UndoCellar" "changes" "Ljava/util/ArrayList;") (by decide +kernel)) (fun _ h9 => h9) rfl dX5_lockerOf_1 ?_
  obtain ⟨_, _, _, ehL20, hL20, -⟩ := id hC.lc
  refine kk_i (va_runV (As := []) (rest := []) ⟨hx, hb, hml, hown, hts⟩ (c_size l D A ad w 4 6 nC ckey hC.lc) (cwV 0 hts gX5_lockerOf_Jx4a65c_size_8abf5 rfl rfl rfl (by decide +kernel) ⟨Nat.le_of_ble_eq_true rfl, Nat.le_of_ble_eq_true rfl⟩) (kV hE hW hL20 rfl _) rfl rfl hl.1 rfl (lv_room (Nat.le_of_ble_eq_true rfl)) dX5_lockerOf_4 ⟨Nat.le_of_ble_eq_true rfl, Nat.le_of_ble_eq_true rfl⟩) hW (fun r24 ad21 w22 H25 locs hp23 hW => ?_)
  obtain ⟨e26, e27, e28⟩ := hp23
  rw [e27, e28] at hW
  subst e26
  refine lv_iconst (v := 1) hx hb dX5_lockerOf_7 (by decide) ?_
  refine lv_isub hx hb dX5_lockerOf_8 ?_
  refine lv_istore_n (lv' := [(2, .int ((nI nC) - 1)), (0, .ref (ad 0)), (1, .ref (ad (24 + r)))]) hx hb dX5_lockerOf_9 rfl hl (by decide) rfl (fun ls hl => ?_)
  exact loop nC _ _ (Nat.le_refl _) rfl hW ls (lv_sub hl [0, 1, 2] rfl)

set_option maxHeartbeats 4000000 in
set_option maxRecDepth 100000 in
/-- k_X5_oldestUnseen_n -/
theorem k_X5_oldestUnseen_n (l : Launch) (D : va_G) (A : Nat → Prop) (ad : Nat → Nat) (w : kWd) (S : St) (nT nC nD nM nZ : Nat) (hC : CW D S ad w nT nC) (hN : SN S nT nC nD nM nZ) (r : Nat) (hr9 : r < 12) (mm : Int32)  : Met l yX5_oldestUnseen wsX5_oldestUnseen ({ frames := 3, cells := 0, slots := 0, locals := 64 }) (kPc D A [.ref (ad 0), .ref (ad (24 + r)), .int mm, .null] ad w) (kQi D A (fun v ad' w' => v = nI (olL S mm (nI r) (-1) nC nC) ∧ ad' = ad ∧ w' = w)) 0 0 A := by
  refine Met.ofW (cc := cX5_oldestUnseen) (maxL := 7) (ret := (some (.int))) (by decide) rfl ?_
  intro p e s m args below meth c s₁ B hml hv
  obtain ⟨rfl, hE, hW0, hI0, hA⟩ := hv
  have hx := B.exec
  have hb := B.bytes
  have hr := B.returns
  have hts := atoms_spec (ws := wsX5_oldestUnseen) B.pre
  have hown : s.vm.findClass RX5 = some m.cls := findClass_of_methodNamed B.named
  have hlocks := B.notSynchronized
  have hiRX5 : ∀ w ∈ wsX50, w ∈ wsX5_oldestUnseen := by decide +kernel
  have hW : kS D A s.heap ad w s.heap [] := ⟨hW0, hI0, va_S.rf, hA⟩
  have hl := lv_entry ([.ref (ad 0), .ref (ad (24 + r)), .int mm, .null]) (n := 7) (Nat.le_of_ble_eq_true rfl)
  rw [lg_entry_eq]
  generalize (lg_sl ([.ref (ad 0), .ref (ad (24 + r)), .int mm, .null]) ++ List.replicate (7 - (lg_sl ([.ref (ad 0), .ref (ad (24 + r)), .int mm, .null])).length) Slot.unset).toArray = ls at hl ⊢
  have hl : lv_has ls 7 [(0, .ref (ad 0)), (1, .ref (ad (24 + r))), (2, .int mm), (3, .null)] := hl
  have h60 := hN.2.2.2.2.2.1
  have h512 := hN.2.2.2.2.2.2.1
  have loop : ∀ (n o : Nat) (H : Heap) (locs : List Loc), n ≤ nC → olL S mm (nI r) (-1) n o = olL S mm (nI r) (-1) nC nC → kS D A s.heap ad w H locs → ∀ ls, lv_has ls 7 [(5, .int (nI n - 1)), (4, .int (nI o)), (0, .ref (ad 0)), (1, .ref (ad (24 + r))), (2, .int mm), (3, .null)] → W p l e ({ frames := 3, cells := 0, slots := 0, locals := 64 }) s m ([.ref (ad 0), .ref (ad (24 + r)), .int mm, .null] : List Value).toArray below meth c H locs 0 0 (MQ below (kQi D A (fun v ad' w' => v = nI (olL S mm (nI r) (-1) nC nC) ∧ ad' = ad ∧ w' = w)) ([.ref (ad 0), .ref (ad (24 + r)), .int mm, .null] : List Value).toArray s 0 0 A) (F0 m 20 ls []) := by
    intro n
    induction n with
    | zero =>
      intro o H locs hn9 he hW ls hl
      refine lv_iload hx hb dX5_oldestUnseen_20 (lv_at hl 0 rfl) ?_
      refine lv_if_lt (tgt := 71) hx hb dX5_oldestUnseen_22 (by decide) (fun _ => ?_) (fun c9 => absurd (nI_m1) c9)
      refine lv_iload hx hb dX5_oldestUnseen_71 (lv_at hl 1 rfl) ?_
      exact ke_i hx hb hr hlocks (Nat.le_of_ble_eq_true rfl) (Nat.le_of_ble_eq_true rfl) dX5_oldestUnseen_73 hW (⟨by rw [← he]; rfl, rfl, rfl⟩)
    | succ n ih =>
      intro o H locs hn9 he hW ls hl
      rw [nI_dn] at hl
      refine lv_iload hx hb dX5_oldestUnseen_20 (lv_at hl 0 rfl) ?_
      refine lv_if_lt (tgt := 71) hx hb dX5_oldestUnseen_22 (by decide) (fun c9 => absurd c9 (nI_pos (by omega))) (fun _ => ?_)
      refine lv_aload_n hx hb dX5_oldestUnseen_25 rfl (lv_at hl 2 rfl) ?_
      refine kk_get hx hb hts hown hE hW hC.u rfl hiRX5 3 (by decide) (hts (.fieldLink RX5 28 "UndoCellar" "changes" "Ljava/util/ArrayList;") (by decide +kernel)) (fun _ h9 => h9) rfl dX5_oldestUnseen_26 ?_
      refine lv_iload hx hb dX5_oldestUnseen_29 (lv_at hl 0 rfl) ?_
      obtain ⟨_, _, _, ehL1, hL1, -⟩ := id hC.lc
      refine kk_q (va_runV (As := [.int (nI n)]) (rest := []) ⟨hx, hb, hml, hown, hts⟩ (c_get l D A ad w 4 6 nC ckey hC.lc (by have := hN.2.2.2.2.2.2.1; omega) n (by omega)) (cwV 1 hts gX5_oldestUnseen_Jx4a65c_get_915e3 rfl rfl rfl (by decide +kernel) ⟨Nat.le_of_ble_eq_true rfl, Nat.le_of_ble_eq_true rfl⟩) (kV hE hW hL1 rfl _) rfl rfl hl.1 rfl (lv_room (Nat.le_of_ble_eq_true rfl)) dX5_oldestUnseen_31 ⟨Nat.le_of_ble_eq_true rfl, Nat.le_of_ble_eq_true rfl⟩) hW (fun r5 ad2 w3 H6 locs hp4 hW => ?_)
      obtain ⟨e7, e8, e9⟩ := hp4
      rw [e8, e9] at hW
      subst e7
      refine W.eq (g2 := F0 m 34 ls [.ref (ad (ckey n))]) rfl ?_
      refine kk_cast hx hb hown (hts (.classLink RX5 126 "UndoCellar$Change") (by decide +kernel)) hE hW (hC.c (show n < nC by omega)) rfl dX5_oldestUnseen_34 ?_
      refine lv_astore (lv' := [(6, .ref (ad (ckey n))), (5, .int (nI n)), (4, .int (nI o)), (0, .ref (ad 0)), (1, .ref (ad (24 + r))), (2, .int mm), (3, .null)]) hx hb dX5_oldestUnseen_37 hl (by decide) rfl (fun ls hl => ?_)
      refine lv_aload hx hb dX5_oldestUnseen_39 (lv_at hl 0 rfl) ?_
      refine lv_aload_n hx hb dX5_oldestUnseen_41 rfl (lv_at hl 4 rfl) ?_
      refine kk_i (va_runVN (As := [.ref (ad (24 + r))]) (rest := []) ⟨hx, hb, hml, hown, hts⟩ (k_X1_stands l D A ad w S nT nC nD nM nZ hC hN n (by omega) r hr9) ⟨va_cnB 1 hts gX5_oldestUnseen_X1_stands_n227 rfl rfl rfl (hE.N 23 rfl) (hts (.initialized RX1) (by decide +kernel)) (by decide +kernel) ⟨Nat.le_of_ble_eq_true rfl, Nat.le_of_ble_eq_true rfl⟩, hts (.instanceMethod yX1_stands) (by decide +kernel), hts (.selects RX1 yX1_stands yX1_stands) (by decide +kernel)⟩ (kV hE hW (hC.c (show n < nC by omega)) rfl _) rfl rfl hl.1 rfl (lv_room (Nat.le_of_ble_eq_true rfl)) dX5_oldestUnseen_42 ⟨Nat.le_of_ble_eq_true rfl, Nat.le_of_ble_eq_true rfl⟩) hW (fun r13 ad10 w11 H14 locs hp12 hW => ?_)
      obtain ⟨e15, e16, e17⟩ := hp12
      rw [e16, e17] at hW
      subst e15
      refine lv_if_eq (tgt := 65) hx hb dX5_oldestUnseen_45 (by decide) (fun c18 => ?_) (fun c18 => ?_)
      · refine lv_iinc (v := nI n - 1) (lv' := [(5, .int (nI n - 1)), (6, .ref (ad (ckey n))), (4, .int (nI o)), (0, .ref (ad 0)), (1, .ref (ad (24 + r))), (2, .int mm), (3, .null)]) hx hb dX5_oldestUnseen_65 hl (k := 1) rfl (i_sub1 _) (by decide) rfl (fun ls hl => ?_)
        refine lv_goto (tgt := 20) hx hb dX5_oldestUnseen_68 (by decide) ?_
        exact ih o _ _ (by omega) (by rw [← he]; exact (if_neg (bI_f c18)).symm) hW ls (lv_sub hl [0, 2, 3, 4, 5, 6] rfl)
      · refine lv_aload hx hb dX5_oldestUnseen_48 (lv_at hl 0 rfl) ?_
        refine lv_iload_n hx hb dX5_oldestUnseen_50 rfl (lv_at hl 5 rfl) ?_
        refine lv_aload_nN hx hb dX5_oldestUnseen_51 rfl (lv_at hl 6 rfl) ?_
        refine kk_i (va_runVN (As := [.int mm, .null]) (rest := []) ⟨hx, hb, hml, hown, hts⟩ (k_X1_isSeen_n l D A ad w S nT nC nD nM nZ hC hN n (by omega) mm) ⟨va_cnB 2 hts gX5_oldestUnseen_X1_isSeen_n236 rfl rfl rfl (hE.N 24 rfl) (hts (.initialized RX1) (by decide +kernel)) (by decide +kernel) ⟨Nat.le_of_ble_eq_true rfl, Nat.le_of_ble_eq_true rfl⟩, hts (.instanceMethod yX1_isSeen) (by decide +kernel), hts (.selects RX1 yX1_isSeen yX1_isSeen) (by decide +kernel)⟩ (kV hE hW (hC.c (show n < nC by omega)) rfl _) rfl rfl hl.1 rfl (lv_room (Nat.le_of_ble_eq_true rfl)) dX5_oldestUnseen_52 ⟨Nat.le_of_ble_eq_true rfl, Nat.le_of_ble_eq_true rfl⟩) hW (fun r22 ad19 w20 H23 locs hp21 hW => ?_)
        obtain ⟨e24, e25, e26⟩ := hp21
        rw [e25, e26] at hW
        subst e24
        refine lv_if_eq (tgt := 61) hx hb dX5_oldestUnseen_55 (by decide) (fun c27 => ?_) (fun c27 => ?_)
        · refine lv_iload hx hb dX5_oldestUnseen_61 (lv_at hl 1 rfl) ?_
          refine lv_istore (lv' := [(4, .int (nI n)), (6, .ref (ad (ckey n))), (5, .int (nI n)), (0, .ref (ad 0)), (1, .ref (ad (24 + r))), (2, .int mm), (3, .null)]) hx hb dX5_oldestUnseen_63 hl (by decide) rfl (fun ls hl => ?_)
          refine lv_iinc (v := nI n - 1) (lv' := [(5, .int (nI n - 1)), (4, .int (nI n)), (6, .ref (ad (ckey n))), (0, .ref (ad 0)), (1, .ref (ad (24 + r))), (2, .int mm), (3, .null)]) hx hb dX5_oldestUnseen_65 hl (k := 2) rfl (i_sub1 _) (by decide) rfl (fun ls hl => ?_)
          refine lv_goto (tgt := 20) hx hb dX5_oldestUnseen_68 (by decide) ?_
          exact ih n _ _ (by omega) (by rw [← he]; exact ((if_pos (bI_t c18)).trans (if_neg (bI_f c27))).symm) hW ls (lv_sub hl [0, 1, 3, 4, 5, 6] rfl)
        · refine lv_iload hx hb dX5_oldestUnseen_58 (lv_at hl 2 rfl) ?_
          exact ke_i hx hb hr hlocks (Nat.le_of_ble_eq_true rfl) (Nat.le_of_ble_eq_true rfl) dX5_oldestUnseen_60 hW (⟨by rw [← he]; exact congrArg nI ((if_pos (bI_t c18)).trans (if_pos (bI_t c27))).symm, rfl, rfl⟩)
  refine lv_aload_n hx hb dX5_oldestUnseen_0 rfl (lv_at hl 0 rfl) ?_
  refine kk_get hx hb hts hown hE hW hC.u rfl hiRX5 3 (by decide) (hts (.fieldLink RX5 28 "UndoCellar" "changes" "Ljava/util/ArrayList;") (by decide +kernel)) (fun _ h9 => h9) rfl dX5_oldestUnseen_1 ?_
  obtain ⟨_, _, _, ehL28, hL28, -⟩ := id hC.lc
  refine kk_i (va_runV (As := []) (rest := []) ⟨hx, hb, hml, hown, hts⟩ (c_size l D A ad w 4 6 nC ckey hC.lc) (cwV 0 hts gX5_oldestUnseen_Jx4a65c_size_8abf5 rfl rfl rfl (by decide +kernel) ⟨Nat.le_of_ble_eq_true rfl, Nat.le_of_ble_eq_true rfl⟩) (kV hE hW hL28 rfl _) rfl rfl hl.1 rfl (lv_room (Nat.le_of_ble_eq_true rfl)) dX5_oldestUnseen_4 ⟨Nat.le_of_ble_eq_true rfl, Nat.le_of_ble_eq_true rfl⟩) hW (fun r32 ad29 w30 H33 locs hp31 hW => ?_)
  obtain ⟨e34, e35, e36⟩ := hp31
  rw [e35, e36] at hW
  subst e34
  refine lv_istore (lv' := [(4, .int (nI nC)), (0, .ref (ad 0)), (1, .ref (ad (24 + r))), (2, .int mm), (3, .null)]) hx hb dX5_oldestUnseen_7 hl (by decide) rfl (fun ls hl => ?_)
  refine lv_aload_n hx hb dX5_oldestUnseen_9 rfl (lv_at hl 1 rfl) ?_
  refine kk_get hx hb hts hown hE hW hC.u rfl hiRX5 3 (by decide) (hts (.fieldLink RX5 28 "UndoCellar" "changes" "Ljava/util/ArrayList;") (by decide +kernel)) (fun _ h9 => h9) rfl dX5_oldestUnseen_10 ?_
  obtain ⟨_, _, _, ehL37, hL37, -⟩ := id hC.lc
  refine kk_i (va_runV (As := []) (rest := []) ⟨hx, hb, hml, hown, hts⟩ (c_size l D A ad w 4 6 nC ckey hC.lc) (cwV 0 hts gX5_oldestUnseen_Jx4a65c_size_8abf5 rfl rfl rfl (by decide +kernel) ⟨Nat.le_of_ble_eq_true rfl, Nat.le_of_ble_eq_true rfl⟩) (kV hE hW hL37 rfl _) rfl rfl hl.1 rfl (lv_room (Nat.le_of_ble_eq_true rfl)) dX5_oldestUnseen_13 ⟨Nat.le_of_ble_eq_true rfl, Nat.le_of_ble_eq_true rfl⟩) hW (fun r41 ad38 w39 H42 locs hp40 hW => ?_)
  obtain ⟨e43, e44, e45⟩ := hp40
  rw [e44, e45] at hW
  subst e43
  refine lv_iconst (v := 1) hx hb dX5_oldestUnseen_16 (by decide) ?_
  refine lv_isub hx hb dX5_oldestUnseen_17 ?_
  refine lv_istore (lv' := [(5, .int ((nI nC) - 1)), (4, .int (nI nC)), (0, .ref (ad 0)), (1, .ref (ad (24 + r))), (2, .int mm), (3, .null)]) hx hb dX5_oldestUnseen_18 hl (by decide) rfl (fun ls hl => ?_)
  exact loop nC nC _ _ (Nat.le_refl _) rfl hW ls (lv_sub hl [0, 1, 2, 3, 4, 5] rfl)

set_option maxHeartbeats 4000000 in
set_option maxRecDepth 100000 in
/-- k_X5_oldestUnseen_t -/
theorem k_X5_oldestUnseen_t (l : Launch) (D : va_G) (A : Nat → Prop) (ad : Nat → Nat) (w : kWd) (S : St) (nT nC nD nM nZ : Nat) (hC : CW D S ad w nT nC) (hN : SN S nT nC nD nM nZ) (r : Nat) (hr9 : r < 12) (mm : Int32) (u : Nat) (hu : u < nT)  : Met l yX5_oldestUnseen wsX5_oldestUnseen ({ frames := 3, cells := 0, slots := 0, locals := 64 }) (kPc D A [.ref (ad 0), .ref (ad (24 + r)), .int mm, .ref (ad (tkey u))] ad w) (kQi D A (fun v ad' w' => v = nI (olL S mm (nI r) (nI u) nC nC) ∧ ad' = ad ∧ w' = w)) 0 0 A := by
  refine Met.ofW (cc := cX5_oldestUnseen) (maxL := 7) (ret := (some (.int))) (by decide) rfl ?_
  intro p e s m args below meth c s₁ B hml hv
  obtain ⟨rfl, hE, hW0, hI0, hA⟩ := hv
  have hx := B.exec
  have hb := B.bytes
  have hr := B.returns
  have hts := atoms_spec (ws := wsX5_oldestUnseen) B.pre
  have hown : s.vm.findClass RX5 = some m.cls := findClass_of_methodNamed B.named
  have hlocks := B.notSynchronized
  have hiRX5 : ∀ w ∈ wsX50, w ∈ wsX5_oldestUnseen := by decide +kernel
  have hW : kS D A s.heap ad w s.heap [] := ⟨hW0, hI0, va_S.rf, hA⟩
  have hl := lv_entry ([.ref (ad 0), .ref (ad (24 + r)), .int mm, .ref (ad (tkey u))]) (n := 7) (Nat.le_of_ble_eq_true rfl)
  rw [lg_entry_eq]
  generalize (lg_sl ([.ref (ad 0), .ref (ad (24 + r)), .int mm, .ref (ad (tkey u))]) ++ List.replicate (7 - (lg_sl ([.ref (ad 0), .ref (ad (24 + r)), .int mm, .ref (ad (tkey u))])).length) Slot.unset).toArray = ls at hl ⊢
  have hl : lv_has ls 7 [(0, .ref (ad 0)), (1, .ref (ad (24 + r))), (2, .int mm), (3, .ref (ad (tkey u)))] := hl
  have h60 := hN.2.2.2.2.2.1
  have h512 := hN.2.2.2.2.2.2.1
  have loop : ∀ (n o : Nat) (H : Heap) (locs : List Loc), n ≤ nC → olL S mm (nI r) (nI u) n o = olL S mm (nI r) (nI u) nC nC → kS D A s.heap ad w H locs → ∀ ls, lv_has ls 7 [(5, .int (nI n - 1)), (4, .int (nI o)), (0, .ref (ad 0)), (1, .ref (ad (24 + r))), (2, .int mm), (3, .ref (ad (tkey u)))] → W p l e ({ frames := 3, cells := 0, slots := 0, locals := 64 }) s m ([.ref (ad 0), .ref (ad (24 + r)), .int mm, .ref (ad (tkey u))] : List Value).toArray below meth c H locs 0 0 (MQ below (kQi D A (fun v ad' w' => v = nI (olL S mm (nI r) (nI u) nC nC) ∧ ad' = ad ∧ w' = w)) ([.ref (ad 0), .ref (ad (24 + r)), .int mm, .ref (ad (tkey u))] : List Value).toArray s 0 0 A) (F0 m 20 ls []) := by
    intro n
    induction n with
    | zero =>
      intro o H locs hn9 he hW ls hl
      refine lv_iload hx hb dX5_oldestUnseen_20 (lv_at hl 0 rfl) ?_
      refine lv_if_lt (tgt := 71) hx hb dX5_oldestUnseen_22 (by decide) (fun _ => ?_) (fun c9 => absurd (nI_m1) c9)
      refine lv_iload hx hb dX5_oldestUnseen_71 (lv_at hl 1 rfl) ?_
      exact ke_i hx hb hr hlocks (Nat.le_of_ble_eq_true rfl) (Nat.le_of_ble_eq_true rfl) dX5_oldestUnseen_73 hW (⟨by rw [← he]; rfl, rfl, rfl⟩)
    | succ n ih =>
      intro o H locs hn9 he hW ls hl
      rw [nI_dn] at hl
      refine lv_iload hx hb dX5_oldestUnseen_20 (lv_at hl 0 rfl) ?_
      refine lv_if_lt (tgt := 71) hx hb dX5_oldestUnseen_22 (by decide) (fun c9 => absurd c9 (nI_pos (by omega))) (fun _ => ?_)
      refine lv_aload_n hx hb dX5_oldestUnseen_25 rfl (lv_at hl 2 rfl) ?_
      refine kk_get hx hb hts hown hE hW hC.u rfl hiRX5 3 (by decide) (hts (.fieldLink RX5 28 "UndoCellar" "changes" "Ljava/util/ArrayList;") (by decide +kernel)) (fun _ h9 => h9) rfl dX5_oldestUnseen_26 ?_
      refine lv_iload hx hb dX5_oldestUnseen_29 (lv_at hl 0 rfl) ?_
      obtain ⟨_, _, _, ehL1, hL1, -⟩ := id hC.lc
      refine kk_q (va_runV (As := [.int (nI n)]) (rest := []) ⟨hx, hb, hml, hown, hts⟩ (c_get l D A ad w 4 6 nC ckey hC.lc (by have := hN.2.2.2.2.2.2.1; omega) n (by omega)) (cwV 1 hts gX5_oldestUnseen_Jx4a65c_get_915e3 rfl rfl rfl (by decide +kernel) ⟨Nat.le_of_ble_eq_true rfl, Nat.le_of_ble_eq_true rfl⟩) (kV hE hW hL1 rfl _) rfl rfl hl.1 rfl (lv_room (Nat.le_of_ble_eq_true rfl)) dX5_oldestUnseen_31 ⟨Nat.le_of_ble_eq_true rfl, Nat.le_of_ble_eq_true rfl⟩) hW (fun r5 ad2 w3 H6 locs hp4 hW => ?_)
      obtain ⟨e7, e8, e9⟩ := hp4
      rw [e8, e9] at hW
      subst e7
      refine W.eq (g2 := F0 m 34 ls [.ref (ad (ckey n))]) rfl ?_
      refine kk_cast hx hb hown (hts (.classLink RX5 126 "UndoCellar$Change") (by decide +kernel)) hE hW (hC.c (show n < nC by omega)) rfl dX5_oldestUnseen_34 ?_
      refine lv_astore (lv' := [(6, .ref (ad (ckey n))), (5, .int (nI n)), (4, .int (nI o)), (0, .ref (ad 0)), (1, .ref (ad (24 + r))), (2, .int mm), (3, .ref (ad (tkey u)))]) hx hb dX5_oldestUnseen_37 hl (by decide) rfl (fun ls hl => ?_)
      refine lv_aload hx hb dX5_oldestUnseen_39 (lv_at hl 0 rfl) ?_
      refine lv_aload_n hx hb dX5_oldestUnseen_41 rfl (lv_at hl 4 rfl) ?_
      refine kk_i (va_runVN (As := [.ref (ad (24 + r))]) (rest := []) ⟨hx, hb, hml, hown, hts⟩ (k_X1_stands l D A ad w S nT nC nD nM nZ hC hN n (by omega) r hr9) ⟨va_cnB 1 hts gX5_oldestUnseen_X1_stands_n227 rfl rfl rfl (hE.N 23 rfl) (hts (.initialized RX1) (by decide +kernel)) (by decide +kernel) ⟨Nat.le_of_ble_eq_true rfl, Nat.le_of_ble_eq_true rfl⟩, hts (.instanceMethod yX1_stands) (by decide +kernel), hts (.selects RX1 yX1_stands yX1_stands) (by decide +kernel)⟩ (kV hE hW (hC.c (show n < nC by omega)) rfl _) rfl rfl hl.1 rfl (lv_room (Nat.le_of_ble_eq_true rfl)) dX5_oldestUnseen_42 ⟨Nat.le_of_ble_eq_true rfl, Nat.le_of_ble_eq_true rfl⟩) hW (fun r13 ad10 w11 H14 locs hp12 hW => ?_)
      obtain ⟨e15, e16, e17⟩ := hp12
      rw [e16, e17] at hW
      subst e15
      refine lv_if_eq (tgt := 65) hx hb dX5_oldestUnseen_45 (by decide) (fun c18 => ?_) (fun c18 => ?_)
      · refine lv_iinc (v := nI n - 1) (lv' := [(5, .int (nI n - 1)), (6, .ref (ad (ckey n))), (4, .int (nI o)), (0, .ref (ad 0)), (1, .ref (ad (24 + r))), (2, .int mm), (3, .ref (ad (tkey u)))]) hx hb dX5_oldestUnseen_65 hl (k := 1) rfl (i_sub1 _) (by decide) rfl (fun ls hl => ?_)
        refine lv_goto (tgt := 20) hx hb dX5_oldestUnseen_68 (by decide) ?_
        exact ih o _ _ (by omega) (by rw [← he]; exact (if_neg (bI_f c18)).symm) hW ls (lv_sub hl [0, 2, 3, 4, 5, 6] rfl)
      · refine lv_aload hx hb dX5_oldestUnseen_48 (lv_at hl 0 rfl) ?_
        refine lv_iload_n hx hb dX5_oldestUnseen_50 rfl (lv_at hl 5 rfl) ?_
        refine lv_aload_n hx hb dX5_oldestUnseen_51 rfl (lv_at hl 6 rfl) ?_
        refine kk_i (va_runVN (As := [.int mm, .ref (ad (tkey u))]) (rest := []) ⟨hx, hb, hml, hown, hts⟩ (k_X1_isSeen_t l D A ad w S nT nC nD nM nZ hC hN n (by omega) mm u hu) ⟨va_cnB 2 hts gX5_oldestUnseen_X1_isSeen_n236 rfl rfl rfl (hE.N 24 rfl) (hts (.initialized RX1) (by decide +kernel)) (by decide +kernel) ⟨Nat.le_of_ble_eq_true rfl, Nat.le_of_ble_eq_true rfl⟩, hts (.instanceMethod yX1_isSeen) (by decide +kernel), hts (.selects RX1 yX1_isSeen yX1_isSeen) (by decide +kernel)⟩ (kV hE hW (hC.c (show n < nC by omega)) rfl _) rfl rfl hl.1 rfl (lv_room (Nat.le_of_ble_eq_true rfl)) dX5_oldestUnseen_52 ⟨Nat.le_of_ble_eq_true rfl, Nat.le_of_ble_eq_true rfl⟩) hW (fun r22 ad19 w20 H23 locs hp21 hW => ?_)
        obtain ⟨e24, e25, e26⟩ := hp21
        rw [e25, e26] at hW
        subst e24
        refine lv_if_eq (tgt := 61) hx hb dX5_oldestUnseen_55 (by decide) (fun c27 => ?_) (fun c27 => ?_)
        · refine lv_iload hx hb dX5_oldestUnseen_61 (lv_at hl 1 rfl) ?_
          refine lv_istore (lv' := [(4, .int (nI n)), (6, .ref (ad (ckey n))), (5, .int (nI n)), (0, .ref (ad 0)), (1, .ref (ad (24 + r))), (2, .int mm), (3, .ref (ad (tkey u)))]) hx hb dX5_oldestUnseen_63 hl (by decide) rfl (fun ls hl => ?_)
          refine lv_iinc (v := nI n - 1) (lv' := [(5, .int (nI n - 1)), (4, .int (nI n)), (6, .ref (ad (ckey n))), (0, .ref (ad 0)), (1, .ref (ad (24 + r))), (2, .int mm), (3, .ref (ad (tkey u)))]) hx hb dX5_oldestUnseen_65 hl (k := 2) rfl (i_sub1 _) (by decide) rfl (fun ls hl => ?_)
          refine lv_goto (tgt := 20) hx hb dX5_oldestUnseen_68 (by decide) ?_
          exact ih n _ _ (by omega) (by rw [← he]; exact ((if_pos (bI_t c18)).trans (if_neg (bI_f c27))).symm) hW ls (lv_sub hl [0, 1, 3, 4, 5, 6] rfl)
        · refine lv_iload hx hb dX5_oldestUnseen_58 (lv_at hl 2 rfl) ?_
          exact ke_i hx hb hr hlocks (Nat.le_of_ble_eq_true rfl) (Nat.le_of_ble_eq_true rfl) dX5_oldestUnseen_60 hW (⟨by rw [← he]; exact congrArg nI ((if_pos (bI_t c18)).trans (if_pos (bI_t c27))).symm, rfl, rfl⟩)
  refine lv_aload_n hx hb dX5_oldestUnseen_0 rfl (lv_at hl 0 rfl) ?_
  refine kk_get hx hb hts hown hE hW hC.u rfl hiRX5 3 (by decide) (hts (.fieldLink RX5 28 "UndoCellar" "changes" "Ljava/util/ArrayList;") (by decide +kernel)) (fun _ h9 => h9) rfl dX5_oldestUnseen_1 ?_
  obtain ⟨_, _, _, ehL28, hL28, -⟩ := id hC.lc
  refine kk_i (va_runV (As := []) (rest := []) ⟨hx, hb, hml, hown, hts⟩ (c_size l D A ad w 4 6 nC ckey hC.lc) (cwV 0 hts gX5_oldestUnseen_Jx4a65c_size_8abf5 rfl rfl rfl (by decide +kernel) ⟨Nat.le_of_ble_eq_true rfl, Nat.le_of_ble_eq_true rfl⟩) (kV hE hW hL28 rfl _) rfl rfl hl.1 rfl (lv_room (Nat.le_of_ble_eq_true rfl)) dX5_oldestUnseen_4 ⟨Nat.le_of_ble_eq_true rfl, Nat.le_of_ble_eq_true rfl⟩) hW (fun r32 ad29 w30 H33 locs hp31 hW => ?_)
  obtain ⟨e34, e35, e36⟩ := hp31
  rw [e35, e36] at hW
  subst e34
  refine lv_istore (lv' := [(4, .int (nI nC)), (0, .ref (ad 0)), (1, .ref (ad (24 + r))), (2, .int mm), (3, .ref (ad (tkey u)))]) hx hb dX5_oldestUnseen_7 hl (by decide) rfl (fun ls hl => ?_)
  refine lv_aload_n hx hb dX5_oldestUnseen_9 rfl (lv_at hl 1 rfl) ?_
  refine kk_get hx hb hts hown hE hW hC.u rfl hiRX5 3 (by decide) (hts (.fieldLink RX5 28 "UndoCellar" "changes" "Ljava/util/ArrayList;") (by decide +kernel)) (fun _ h9 => h9) rfl dX5_oldestUnseen_10 ?_
  obtain ⟨_, _, _, ehL37, hL37, -⟩ := id hC.lc
  refine kk_i (va_runV (As := []) (rest := []) ⟨hx, hb, hml, hown, hts⟩ (c_size l D A ad w 4 6 nC ckey hC.lc) (cwV 0 hts gX5_oldestUnseen_Jx4a65c_size_8abf5 rfl rfl rfl (by decide +kernel) ⟨Nat.le_of_ble_eq_true rfl, Nat.le_of_ble_eq_true rfl⟩) (kV hE hW hL37 rfl _) rfl rfl hl.1 rfl (lv_room (Nat.le_of_ble_eq_true rfl)) dX5_oldestUnseen_13 ⟨Nat.le_of_ble_eq_true rfl, Nat.le_of_ble_eq_true rfl⟩) hW (fun r41 ad38 w39 H42 locs hp40 hW => ?_)
  obtain ⟨e43, e44, e45⟩ := hp40
  rw [e44, e45] at hW
  subst e43
  refine lv_iconst (v := 1) hx hb dX5_oldestUnseen_16 (by decide) ?_
  refine lv_isub hx hb dX5_oldestUnseen_17 ?_
  refine lv_istore (lv' := [(5, .int ((nI nC) - 1)), (4, .int (nI nC)), (0, .ref (ad 0)), (1, .ref (ad (24 + r))), (2, .int mm), (3, .ref (ad (tkey u)))]) hx hb dX5_oldestUnseen_18 hl (by decide) rfl (fun ls hl => ?_)
  exact loop nC nC _ _ (Nat.le_refl _) rfl hW ls (lv_sub hl [0, 1, 2, 3, 4, 5] rfl)

set_option maxHeartbeats 4000000 in
set_option maxRecDepth 100000 in
/-- k_X5_valueAheadOf -/
theorem k_X5_valueAheadOf (l : Launch) (D : va_G) (A : Nat → Prop) (ad : Nat → Nat) (w : kWd) (S : St) (nT nC nD nM nZ : Nat) (hC : CW D S ad w nT nC) (hN : SN S nT nC nD nM nZ) (o : Nat) (ho : o ≤ nC) (r : Nat) (hr9 : r < 12) : Met l yX5_valueAheadOf wsX5_valueAheadOf ({ frames := 3, cells := 0, slots := 0, locals := 64 }) (kPc D A [.ref (ad 0), .int (nI o), .ref (ad (24 + r))] ad w) (kQi D A (fun v ad' w' => v = (if o < nC then S 6 o else S 0 r) ∧ ad' = ad ∧ w' = w)) 0 0 A := by
  refine Met.ofW (cc := cX5_valueAheadOf) (maxL := 3) (ret := (some (.int))) (by decide) rfl ?_
  intro p e s m args below meth c s₁ B hml hv
  obtain ⟨rfl, hE, hW0, hI0, hA⟩ := hv
  have hx := B.exec
  have hb := B.bytes
  have hr := B.returns
  have hts := atoms_spec (ws := wsX5_valueAheadOf) B.pre
  have hown : s.vm.findClass RX5 = some m.cls := findClass_of_methodNamed B.named
  have hlocks := B.notSynchronized
  have hiRX1 : ∀ w ∈ wsX10, w ∈ wsX5_valueAheadOf := by decide +kernel
  have hiRX2 : ∀ w ∈ wsX20, w ∈ wsX5_valueAheadOf := by decide +kernel
  have hiRX5 : ∀ w ∈ wsX50, w ∈ wsX5_valueAheadOf := by decide +kernel
  have hW : kS D A s.heap ad w s.heap [] := ⟨hW0, hI0, va_S.rf, hA⟩
  have hl := lv_entry ([.ref (ad 0), .int (nI o), .ref (ad (24 + r))]) (n := 3) (Nat.le_of_ble_eq_true rfl)
  rw [lg_entry_eq]
  generalize (lg_sl ([.ref (ad 0), .int (nI o), .ref (ad (24 + r))]) ++ List.replicate (3 - (lg_sl ([.ref (ad 0), .int (nI o), .ref (ad (24 + r))])).length) Slot.unset).toArray = ls at hl ⊢
  have hl : lv_has ls 3 [(0, .ref (ad 0)), (1, .int (nI o)), (2, .ref (ad (24 + r)))] := hl
  have h60 := hN.2.2.2.2.2.1
  have h512 := hN.2.2.2.2.2.2.1
  refine lv_iload_n hx hb dX5_valueAheadOf_0 rfl (lv_at hl 1 rfl) ?_
  refine lv_if_lt (tgt := 15) hx hb dX5_valueAheadOf_1 (by decide) (fun c9 => absurd c9 (nI_pos (by omega))) (fun _ => ?_)
  refine lv_iload_n hx hb dX5_valueAheadOf_4 rfl (lv_at hl 1 rfl) ?_
  refine lv_aload_n hx hb dX5_valueAheadOf_5 rfl (lv_at hl 0 rfl) ?_
  refine kk_get hx hb hts hown hE hW hC.u rfl hiRX5 3 (by decide) (hts (.fieldLink RX5 28 "UndoCellar" "changes" "Ljava/util/ArrayList;") (by decide +kernel)) (fun _ h9 => h9) rfl dX5_valueAheadOf_6 ?_
  obtain ⟨_, _, _, ehL1, hL1, -⟩ := id hC.lc
  refine kk_i (va_runV (As := []) (rest := [.int (nI o)]) ⟨hx, hb, hml, hown, hts⟩ (c_size l D A ad w 4 6 nC ckey hC.lc) (cwV 0 hts gX5_valueAheadOf_Jx4a65c_size_8abf5 rfl rfl rfl (by decide +kernel) ⟨Nat.le_of_ble_eq_true rfl, Nat.le_of_ble_eq_true rfl⟩) (kV hE hW hL1 rfl _) rfl rfl hl.1 rfl (lv_room (Nat.le_of_ble_eq_true rfl)) dX5_valueAheadOf_9 ⟨Nat.le_of_ble_eq_true rfl, Nat.le_of_ble_eq_true rfl⟩) hW (fun r5 ad2 w3 H6 locs hp4 hW => ?_)
  obtain ⟨e7, e8, e9⟩ := hp4
  rw [e8, e9] at hW
  subst e7
  refine lv_icmp_lt (tgt := 20) hx hb dX5_valueAheadOf_12 (by decide) (fun c10 => ?_) (fun c10 => ?_)
  · have hlt : o < nC := by
      rcases Nat.lt_or_ge o nC with h | h
      · exact h
      · exact absurd c10 (nI_nlt h (by omega))
    refine lv_aload_n hx hb dX5_valueAheadOf_20 rfl (lv_at hl 0 rfl) ?_
    refine kk_get hx hb hts hown hE hW hC.u rfl hiRX5 3 (by decide) (hts (.fieldLink RX5 28 "UndoCellar" "changes" "Ljava/util/ArrayList;") (by decide +kernel)) (fun _ h9 => h9) rfl dX5_valueAheadOf_21 ?_
    refine lv_iload_n hx hb dX5_valueAheadOf_24 rfl (lv_at hl 1 rfl) ?_
    obtain ⟨_, _, _, ehL11, hL11, -⟩ := id hC.lc
    refine kk_q (va_runV (As := [.int (nI o)]) (rest := []) ⟨hx, hb, hml, hown, hts⟩ (c_get l D A ad w 4 6 nC ckey hC.lc (by have := hN.2.2.2.2.2.2.1; omega) o hlt) (cwV 1 hts gX5_valueAheadOf_Jx4a65c_get_915e3 rfl rfl rfl (by decide +kernel) ⟨Nat.le_of_ble_eq_true rfl, Nat.le_of_ble_eq_true rfl⟩) (kV hE hW hL11 rfl _) rfl rfl hl.1 rfl (lv_room (Nat.le_of_ble_eq_true rfl)) dX5_valueAheadOf_25 ⟨Nat.le_of_ble_eq_true rfl, Nat.le_of_ble_eq_true rfl⟩) hW (fun r15 ad12 w13 H16 locs hp14 hW => ?_)
    obtain ⟨e17, e18, e19⟩ := hp14
    rw [e18, e19] at hW
    subst e17
    refine W.eq (g2 := F0 m 28 ls [.ref (ad (ckey o))]) rfl ?_
    refine kk_cast hx hb hown (hts (.classLink RX5 126 "UndoCellar$Change") (by decide +kernel)) hE hW (hC.c hlt) rfl dX5_valueAheadOf_28 ?_
    refine kk_getN hx hb hts hown hE hW (hC.c hlt) rfl hiRX1 2 (by decide) (hE.N 16 rfl) (fun _ h9 => h9) rfl dX5_valueAheadOf_31 ?_
    exact ke_i hx hb hr hlocks (Nat.le_of_ble_eq_true rfl) (Nat.le_of_ble_eq_true rfl) dX5_valueAheadOf_34 hW (⟨(if_pos hlt).symm, rfl, rfl⟩)
  · have hge : ¬ o < nC := fun h => nI_ge h (by omega) (Int32.not_lt.mp c10)
    refine lv_aload_n hx hb dX5_valueAheadOf_15 rfl (lv_at hl 2 rfl) ?_
    refine kk_getN hx hb hts hown hE hW (hC.r hr9) rfl hiRX2 1 (by decide) (hE.N 7 rfl) (fun _ h9 => h9) rfl dX5_valueAheadOf_16 ?_
    exact ke_i hx hb hr hlocks (Nat.le_of_ble_eq_true rfl) (Nat.le_of_ble_eq_true rfl) dX5_valueAheadOf_19 hW (⟨(if_neg hge).symm, rfl, rfl⟩)

set_option maxHeartbeats 4000000 in
set_option maxRecDepth 100000 in
/-- k_X5_refuseIfLockedByAnother -/
theorem k_X5_refuseIfLockedByAnother (l : Launch) (hnt : l.stackTraces = false) (D : va_G) (A : Nat → Prop) (ad : Nat → Nat) (w : kWd) (S : St) (nT nC nD nM nZ : Nat) (hC : CW D S ad w nT nC) (hN : SN S nT nC nD nM nZ) (r : Nat) (hr9 : r < 12) (u : Nat) (hu : u < nT) : vx_Met l yX5_refuseIfLockedByAnother wsX5_refuseIfLockedByAnother ({ frames := 6, cells := 1, slots := 6, locals := 100 }) (kPc D A [.ref (ad 0), .ref (ad (24 + r)), .ref (ad (tkey u))] ad w) (kQv D A (fun ad' w' => (lockV S (nI r) = -1 ∨ lockV S (nI r) = nI u) ∧ ad' = ad ∧ w' = w)) (kX D A (fun E => E = xIS ∧ ¬ (lockV S (nI r) = -1 ∨ lockV S (nI r) = nI u)) ad w) 1 6 A := by
  refine vx_ofW (cc := cX5_refuseIfLockedByAnother) (maxL := 4) (ret := none) (by decide) rfl ?_
  intro p e s m args below meth c s₁ B hml hout hv
  obtain ⟨rfl, hE, hW0, hI0, hA⟩ := hv
  have hx := B.exec
  have hb := B.bytes
  have hr := B.returns
  have hts := atoms_spec (ws := wsX5_refuseIfLockedByAnother) B.pre
  have hown : s.vm.findClass RX5 = some m.cls := findClass_of_methodNamed B.named
  have hlocks := B.notSynchronized
  have hW : kS D A s.heap ad w s.heap [] := ⟨hW0, hI0, va_S.rf, hA⟩
  have hl := lv_entry ([.ref (ad 0), .ref (ad (24 + r)), .ref (ad (tkey u))]) (n := 4) (Nat.le_of_ble_eq_true rfl)
  rw [lg_entry_eq]
  generalize (lg_sl ([.ref (ad 0), .ref (ad (24 + r)), .ref (ad (tkey u))]) ++ List.replicate (4 - (lg_sl ([.ref (ad 0), .ref (ad (24 + r)), .ref (ad (tkey u))])).length) Slot.unset).toArray = ls at hl ⊢
  have hl : lv_has ls 4 [(0, .ref (ad 0)), (1, .ref (ad (24 + r))), (2, .ref (ad (tkey u)))] := hl
  have h60 := hN.2.2.2.2.2.1
  have h512 := hN.2.2.2.2.2.2.1
  refine lv_aload_n hx hb dX5_refuseIfLockedByAnother_0 rfl (lv_at hl 0 rfl) ?_
  refine lv_aload_n hx hb dX5_refuseIfLockedByAnother_1 rfl (lv_at hl 1 rfl) ?_
  refine kk_q (va_runV (As := [.ref (ad (24 + r))]) (rest := []) ⟨hx, hb, hml, hown, hts⟩ (k_X5_lockerOf l D A ad w S nT nC nD nM nZ hC hN r hr9) (cwV 1 hts gX5_refuseIfLockedByAnother_X5_lockerOf rfl rfl rfl (by decide +kernel) ⟨Nat.le_of_ble_eq_true rfl, Nat.le_of_ble_eq_true rfl⟩) (kV hE hW hC.u rfl _) rfl rfl hl.1 rfl (lv_room (Nat.le_of_ble_eq_true rfl)) dX5_refuseIfLockedByAnother_2 ⟨Nat.le_of_ble_eq_true rfl, Nat.le_of_ble_eq_true rfl⟩) hW (fun r4 ad1 w2 H5 locs hp3 hW => ?_)
  obtain ⟨e6, e7, e8⟩ := hp3
  rw [e7, e8] at hW
  subst e6
  rcases lockV_of hN (nI r) with hk | ⟨t, ht, hk, -⟩
  · have hz : lkO2 ad S (nI r) = none := if_pos hk
    refine W.eq (g2 := F0 m 5 ls [.null]) (by rw [hz]; rfl) ?_
    refine lv_astore_nN (lv' := [(3, .null), (0, .ref (ad 0)), (1, .ref (ad (24 + r))), (2, .ref (ad (tkey u)))]) hx hb dX5_refuseIfLockedByAnother_5 rfl hl (by decide) rfl (fun ls hl => ?_)
    refine lv_aload_nN hx hb dX5_refuseIfLockedByAnother_6 rfl (lv_at hl 0 rfl) ?_
    refine lv_ifnullN (tgt := 25) hx hb dX5_refuseIfLockedByAnother_7 (by decide) ?_
    exact vx_ret (ke_v hx hb hr hlocks (Nat.le_of_ble_eq_true rfl) (Nat.le_of_ble_eq_true rfl) dX5_refuseIfLockedByAnother_25 hW (⟨Or.inl hk, rfl, rfl⟩))
  · have hz : lkO2 ad S (nI r) = some (ad (tkey t)) := by unfold lkO2; rw [hk, if_neg (nI_nm1 (by omega)), nv_nI (by omega)]
    refine W.eq (g2 := F0 m 5 ls [.ref (ad (tkey t))]) (by rw [hz]; rfl) ?_
    have hiff : some (ad (tkey t)) = some (ad (tkey u)) ↔ nI t = nI u := by
      rw [hW.inj (hC.t ht) (hC.t hu)]
      constructor
      · intro q
        have : 100 + 2 * t = 100 + 2 * u := q
        rw [show t = u by omega]
      · intro q
        have := (nI_eq (by omega) (by omega)).mp q
        rw [this]
    refine lv_astore_n (lv' := [(3, .ref (ad (tkey t))), (0, .ref (ad 0)), (1, .ref (ad (24 + r))), (2, .ref (ad (tkey u)))]) hx hb dX5_refuseIfLockedByAnother_5 rfl hl (by decide) rfl (fun ls hl => ?_)
    refine lv_aload_n hx hb dX5_refuseIfLockedByAnother_6 rfl (lv_at hl 0 rfl) ?_
    refine lv_ifnull hx hb dX5_refuseIfLockedByAnother_7 ?_
    refine lv_aload_n hx hb dX5_refuseIfLockedByAnother_10 rfl (lv_at hl 0 rfl) ?_
    refine lv_aload_n hx hb dX5_refuseIfLockedByAnother_11 rfl (lv_at hl 3 rfl) ?_
    refine lv_acmp_eq (rx := some (ad (tkey t))) (ry := some (ad (tkey u))) (tgt := 25) hx hb dX5_refuseIfLockedByAnother_12 (by decide) (fun c9 => ?_) (fun c9 => ?_)
    · exact vx_ret (ke_v hx hb hr hlocks (Nat.le_of_ble_eq_true rfl) (Nat.le_of_ble_eq_true rfl) dX5_refuseIfLockedByAnother_25 hW (⟨Or.inr (by rw [hk]; exact hiff.mp c9), rfl, rfl⟩))
    · exact kk_throw kf_IS hx hb hnt hown (fun w h => hts w (List.mem_cons_of_mem _ (List.mem_append_right _ h))) (hts (.classLink RX5 59 "java/lang/IllegalStateException") (by decide +kernel)) (hts (.initialized "java/lang/IllegalStateException") (by decide +kernel)) hE hW (hl.1.trans hml.symm) (hE.R 12 rfl) dX5_refuseIfLockedByAnother_15 dX5_refuseIfLockedByAnother_18 dX5_refuseIfLockedByAnother_19 dX5_refuseIfLockedByAnother_21 dX5_refuseIfLockedByAnother_24 hout ⟨Nat.le_of_ble_eq_true rfl, Nat.le_of_ble_eq_true rfl, Nat.le_of_ble_eq_true rfl, Nat.le_of_ble_eq_true rfl⟩ hlocks (⟨rfl, fun q => q.elim (fun z => absurd z (by rw [hk]; exact nI_nm1 (by omega))) (fun z => c9 (hiff.mpr (by rw [hk] at z; exact z)))⟩) (Nat.le_of_ble_eq_true rfl) (Nat.le_of_ble_eq_true rfl)

set_option maxHeartbeats 4000000 in
set_option maxRecDepth 100000 in
/-- k_X5_refuseIfNoSpace -/
theorem k_X5_refuseIfNoSpace (l : Launch) (hnt : l.stackTraces = false) (D : va_G) (A : Nat → Prop) (ad : Nat → Nat) (w : kWd) (S : St) (nT nC nD nM nZ : Nat) (hC : CW D S ad w nT nC) (hN : SN S nT nC nD nM nZ) (hlt : nC < 512) : vx_Met l yX5_refuseIfNoSpace wsX5_refuseIfNoSpace ({ frames := 6, cells := 1, slots := 6, locals := 100 }) (kPc D A [.ref (ad 0)] ad w) (kQv D A (fun ad' w' => spP S ∧ ad' = ad ∧ w' = w)) (kX D A (fun E => E = xIS ∧ ¬ spP S) ad w) 1 6 A := by
  refine vx_ofW (cc := cX5_refuseIfNoSpace) (maxL := 1) (ret := none) (by decide) rfl ?_
  intro p e s m args below meth c s₁ B hml hout hv
  obtain ⟨rfl, hE, hW0, hI0, hA⟩ := hv
  have hx := B.exec
  have hb := B.bytes
  have hr := B.returns
  have hts := atoms_spec (ws := wsX5_refuseIfNoSpace) B.pre
  have hown : s.vm.findClass RX5 = some m.cls := findClass_of_methodNamed B.named
  have hlocks := B.notSynchronized
  have hiRX1 : ∀ w ∈ wsX10, w ∈ wsX5_refuseIfNoSpace := by decide +kernel
  have hiRX4 : ∀ w ∈ wsX40, w ∈ wsX5_refuseIfNoSpace := by decide +kernel
  have hiRX5 : ∀ w ∈ wsX50, w ∈ wsX5_refuseIfNoSpace := by decide +kernel
  have hW : kS D A s.heap ad w s.heap [] := ⟨hW0, hI0, va_S.rf, hA⟩
  have hl := lv_entry ([.ref (ad 0)]) (n := 1) (Nat.le_of_ble_eq_true rfl)
  rw [lg_entry_eq]
  generalize (lg_sl ([.ref (ad 0)]) ++ List.replicate (1 - (lg_sl ([.ref (ad 0)])).length) Slot.unset).toArray = ls at hl ⊢
  have hl : lv_has ls 1 [(0, .ref (ad 0))] := hl
  have h60 := hN.2.2.2.2.2.1
  have h512 := hN.2.2.2.2.2.2.1
  have hz1 := hN.2.2.2.2.2.2.2.2.2.1
  have hz30 := hN.2.2.2.2.2.2.2.2.2.2.1
  have hd := hN.2.2.2.2.2.2.2.1
  refine lv_aload_n hx hb dX5_refuseIfNoSpace_0 rfl (lv_at hl 0 rfl) ?_
  refine kk_get hx hb hts hown hE hW hC.u rfl hiRX5 3 (by decide) (hts (.fieldLink RX5 28 "UndoCellar" "changes" "Ljava/util/ArrayList;") (by decide +kernel)) (fun _ h9 => h9) rfl dX5_refuseIfNoSpace_1 ?_
  obtain ⟨_, _, _, ehL1, hL1, -⟩ := id hC.lc
  refine kk_i (va_runV (As := []) (rest := []) ⟨hx, hb, hml, hown, hts⟩ (c_size l D A ad w 4 6 nC ckey hC.lc) (cwV 0 hts gX5_refuseIfNoSpace_Jx4a65c_size_8abf5 rfl rfl rfl (by decide +kernel) ⟨Nat.le_of_ble_eq_true rfl, Nat.le_of_ble_eq_true rfl⟩) (kV hE hW hL1 rfl _) rfl rfl hl.1 rfl (lv_room (Nat.le_of_ble_eq_true rfl)) dX5_refuseIfNoSpace_4 ⟨Nat.le_of_ble_eq_true rfl, Nat.le_of_ble_eq_true rfl⟩) hW (fun r5 ad2 w3 H6 locs hp4 hW => ?_)
  obtain ⟨e7, e8, e9⟩ := hp4
  rw [e8, e9] at hW
  subst e7
  refine lv_sipush (v := 512) hx hb dX5_refuseIfNoSpace_7 (by decide) ?_
  refine lv_icmp_lt (tgt := 23) hx hb dX5_refuseIfNoSpace_10 (by decide) (fun _ => ?_) (fun c9 => absurd (nI_lt hlt (by decide)) c9)
  refine lv_aload_n hx hb dX5_refuseIfNoSpace_23 rfl (lv_at hl 0 rfl) ?_
  refine kk_i (va_runV (As := []) (rest := []) ⟨hx, hb, hml, hown, hts⟩ (k_X5_isSpaceFull l D A ad w S nT nC nD nM nZ hC hN) (cwV 0 hts gX5_refuseIfNoSpace_X5_isSpaceFull rfl rfl rfl (by decide +kernel) ⟨Nat.le_of_ble_eq_true rfl, Nat.le_of_ble_eq_true rfl⟩) (kV hE hW hC.u rfl _) rfl rfl hl.1 rfl (lv_room (Nat.le_of_ble_eq_true rfl)) dX5_refuseIfNoSpace_24 ⟨Nat.le_of_ble_eq_true rfl, Nat.le_of_ble_eq_true rfl⟩) hW (fun r13 ad10 w11 H14 locs hp12 hW => ?_)
  obtain ⟨e15, e16, e17⟩ := hp12
  rw [e16, e17] at hW
  subst e15
  refine lv_if_eq (tgt := 63) hx hb dX5_refuseIfNoSpace_27 (by decide) (fun c18 => ?_) (fun c18 => ?_)
  · have hsp : spP S := by
      by_cases q : nD < nC
      · exact Or.inl (Int32.not_le.mp fun z => (bI_f c18) ⟨q, z⟩)
      · refine Or.inl ?_
        rw [hN.2.1, hN.2.2.1, hN.2.2.2.2.1, show nD = nC by omega, pk_sub (Nat.le_refl _), Nat.sub_self]
        exact nI_lt (by omega) (by omega)
    exact vx_ret (ke_v hx hb hr hlocks (Nat.le_of_ble_eq_true rfl) (Nat.le_of_ble_eq_true rfl) dX5_refuseIfNoSpace_63 hW (⟨hsp, rfl, rfl⟩))
  · have hnv : nv (S 14 0) = nD := by rw [hN.2.2.1]; exact nv_nI (by omega)
    obtain ⟨hlt2, hfull⟩ := bI_t c18
    obtain ⟨t, ht, h4⟩ := hN.by hlt2
    obtain ⟨r0, hr0, h5⟩ := hN.ro hlt2
    have hcc := hC.cc hlt2 h4 (by omega) h5 hr0
    have hsp : spP S ↔ ¬ S 1 t = 0 := by
      unfold spP actP
      rw [hnv, h4, nv_nI (by omega)]
      exact ⟨fun q => q.elim (fun z => absurd hfull (Int32.not_le.mpr z)) id, Or.inr⟩
    refine lv_aload_n hx hb dX5_refuseIfNoSpace_30 rfl (lv_at hl 0 rfl) ?_
    refine kk_get hx hb hts hown hE hW hC.u rfl hiRX5 3 (by decide) (hts (.fieldLink RX5 28 "UndoCellar" "changes" "Ljava/util/ArrayList;") (by decide +kernel)) (fun _ h9 => h9) rfl dX5_refuseIfNoSpace_31 ?_
    refine lv_aload_n hx hb dX5_refuseIfNoSpace_34 rfl (lv_at hl 0 rfl) ?_
    refine kk_get hx hb hts hown hE hW hC.u rfl hiRX5 7 (by decide) (hts (.fieldLink RX5 41 "UndoCellar" "droppedSoFar" "I") (by decide +kernel)) (fun _ h9 => h9) rfl dX5_refuseIfNoSpace_35 ?_
    rw [hN.2.2.1]
    obtain ⟨_, _, _, ehL19, hL19, -⟩ := id hC.lc
    refine kk_q (va_runV (As := [.int (nI nD)]) (rest := []) ⟨hx, hb, hml, hown, hts⟩ (c_get l D A ad w 4 6 nC ckey hC.lc (by have := hN.2.2.2.2.2.2.1; omega) nD hlt2) (cwV 1 hts gX5_refuseIfNoSpace_Jx4a65c_get_915e3 rfl rfl rfl (by decide +kernel) ⟨Nat.le_of_ble_eq_true rfl, Nat.le_of_ble_eq_true rfl⟩) (kV hE hW hL19 rfl _) rfl rfl hl.1 rfl (lv_room (Nat.le_of_ble_eq_true rfl)) dX5_refuseIfNoSpace_38 ⟨Nat.le_of_ble_eq_true rfl, Nat.le_of_ble_eq_true rfl⟩) hW (fun r23 ad20 w21 H24 locs hp22 hW => ?_)
    obtain ⟨e25, e26, e27⟩ := hp22
    rw [e26, e27] at hW
    subst e25
    refine W.eq (g2 := F0 m 41 ls [.ref (ad (ckey nD))]) rfl ?_
    refine kk_cast hx hb hown (hts (.classLink RX5 126 "UndoCellar$Change") (by decide +kernel)) hE hW hcc rfl dX5_refuseIfNoSpace_41 ?_
    refine kk_getN hx hb hts hown hE hW hcc rfl hiRX1 0 (by decide) (hE.N 15 rfl) (fun _ h9 => h9) rfl dX5_refuseIfNoSpace_44 ?_
    refine kk_getN hx hb hts hown hE hW (hC.t ht) rfl hiRX4 2 (by decide) (hE.N 11 rfl) (fun _ h9 => h9) rfl dX5_refuseIfNoSpace_47 ?_
    refine lv_if_eq (tgt := 63) hx hb dX5_refuseIfNoSpace_50 (by decide) (fun c28 => ?_) (fun c28 => ?_)
    · exact vx_ret (ke_v hx hb hr hlocks (Nat.le_of_ble_eq_true rfl) (Nat.le_of_ble_eq_true rfl) dX5_refuseIfNoSpace_63 hW (⟨hsp.mpr (bI_f c28), rfl, rfl⟩))
    · exact kk_throw kf_IS hx hb hnt hown (fun w h => hts w (List.mem_cons_of_mem _ (List.mem_append_right _ h))) (hts (.classLink RX5 59 "java/lang/IllegalStateException") (by decide +kernel)) (hts (.initialized "java/lang/IllegalStateException") (by decide +kernel)) hE hW (hl.1.trans hml.symm) (hE.R 14 rfl) dX5_refuseIfNoSpace_53 dX5_refuseIfNoSpace_56 dX5_refuseIfNoSpace_57 dX5_refuseIfNoSpace_59 dX5_refuseIfNoSpace_62 hout ⟨Nat.le_of_ble_eq_true rfl, Nat.le_of_ble_eq_true rfl, Nat.le_of_ble_eq_true rfl, Nat.le_of_ble_eq_true rfl⟩ hlocks (⟨rfl, fun q => hsp.mp q (bI_t c28)⟩) (Nat.le_of_ble_eq_true rfl) (Nat.le_of_ble_eq_true rfl)

set_option maxHeartbeats 4000000 in
set_option maxRecDepth 100000 in
/-- k_X5_readFromRecords_n -/
theorem k_X5_readFromRecords_n (l : Launch) (hnt : l.stackTraces = false) (D : va_G) (A : Nat → Prop) (ad : Nat → Nat) (w : kWd) (S : St) (nT nC nD nM nZ : Nat) (hC : CW D S ad w nT nC) (hN : SN S nT nC nD nM nZ) (r : Nat) (hr9 : r < 12) (mm : Int32)  : vx_Met l yX5_readFromRecords wsX5_readFromRecords ({ frames := 6, cells := 1, slots := 6, locals := 100 }) (kPc D A [.ref (ad 0), .ref (ad (24 + r)), .int mm, .null] ad w) (kQi D A (fun v ad' w' => v = (vaV S mm (nI r) (-1)).1 ∧ (vaV S mm (nI r) (-1)).2 = 0 ∧ ad' = ad ∧ CW D (cleanS S (r / 4)) ad w' nT nC ∧ FrC ad w ad w')) (kX D A (fun E => E = xNS ∧ ¬ (vaV S mm (nI r) (-1)).2 = 0) ad w) 1 6 A := by
  refine vx_ofW (cc := cX5_readFromRecords) (maxL := 5) (ret := (some (.int))) (by decide) rfl ?_
  intro p e s m args below meth c s₁ B hml hout hv
  obtain ⟨rfl, hE, hW0, hI0, hA⟩ := hv
  have hx := B.exec
  have hb := B.bytes
  have hr := B.returns
  have hts := atoms_spec (ws := wsX5_readFromRecords) B.pre
  have hown : s.vm.findClass RX5 = some m.cls := findClass_of_methodNamed B.named
  have hlocks := B.notSynchronized
  have hiRX2 : ∀ w ∈ wsX20, w ∈ wsX5_readFromRecords := by decide +kernel
  have hiRX5 : ∀ w ∈ wsX50, w ∈ wsX5_readFromRecords := by decide +kernel
  have hW : kS D A s.heap ad w s.heap [] := ⟨hW0, hI0, va_S.rf, hA⟩
  have hl := lv_entry ([.ref (ad 0), .ref (ad (24 + r)), .int mm, .null]) (n := 5) (Nat.le_of_ble_eq_true rfl)
  rw [lg_entry_eq]
  generalize (lg_sl ([.ref (ad 0), .ref (ad (24 + r)), .int mm, .null]) ++ List.replicate (5 - (lg_sl ([.ref (ad 0), .ref (ad (24 + r)), .int mm, .null])).length) Slot.unset).toArray = ls at hl ⊢
  have hl : lv_has ls 5 [(0, .ref (ad 0)), (1, .ref (ad (24 + r))), (2, .int mm), (3, .null)] := hl
  have h60 := hN.2.2.2.2.2.1
  have h512 := hN.2.2.2.2.2.2.1
  have hd := hN.2.2.2.2.2.2.2.1
  have hv9 := vaV_olL (m := mm) (t := (-1)) hN.2.1 hN.2.2.1 h512 hd hr9
  have ho9 := olL_le S mm (nI r) (-1) nC nC (Nat.le_refl _)
  obtain ⟨o, ho⟩ : ∃ o, o = olL S mm (nI r) (-1) nC nC := ⟨_, rfl⟩
  rw [← ho] at hv9 ho9
  refine lv_aload_n hx hb dX5_readFromRecords_0 rfl (lv_at hl 0 rfl) ?_
  refine lv_aload_n hx hb dX5_readFromRecords_1 rfl (lv_at hl 1 rfl) ?_
  refine lv_iload_n hx hb dX5_readFromRecords_2 rfl (lv_at hl 2 rfl) ?_
  refine lv_aload_nN hx hb dX5_readFromRecords_3 rfl (lv_at hl 3 rfl) ?_
  refine kk_i (va_runV (As := [.ref (ad (24 + r)), .int mm, .null]) (rest := []) ⟨hx, hb, hml, hown, hts⟩ (k_X5_oldestUnseen_n l D A ad w S nT nC nD nM nZ hC hN r hr9 mm) (cwV 3 hts gX5_readFromRecords_X5_oldestUnseen rfl rfl rfl (by decide +kernel) ⟨Nat.le_of_ble_eq_true rfl, Nat.le_of_ble_eq_true rfl⟩) (kV hE hW hC.u rfl _) rfl rfl hl.1 rfl (lv_room (Nat.le_of_ble_eq_true rfl)) dX5_readFromRecords_4 ⟨Nat.le_of_ble_eq_true rfl, Nat.le_of_ble_eq_true rfl⟩) hW (fun r4 ad1 w2 H5 locs hp3 hW => ?_)
  obtain ⟨e6, e7, e8⟩ := hp3
  rw [e7, e8] at hW
  subst e6
  rw [← ho]
  refine lv_istore (lv' := [(4, .int (nI o)), (0, .ref (ad 0)), (1, .ref (ad (24 + r))), (2, .int mm), (3, .null)]) hx hb dX5_readFromRecords_7 hl (by decide) rfl (fun ls hl => ?_)
  refine lv_iload hx hb dX5_readFromRecords_9 (lv_at hl 0 rfl) ?_
  refine lv_aload_n hx hb dX5_readFromRecords_11 rfl (lv_at hl 1 rfl) ?_
  refine kk_get hx hb hts hown hE hW hC.u rfl hiRX5 7 (by decide) (hts (.fieldLink RX5 41 "UndoCellar" "droppedSoFar" "I") (by decide +kernel)) (fun _ h9 => h9) rfl dX5_readFromRecords_12 ?_
  refine lv_icmp_ge (tgt := 28) hx hb dX5_readFromRecords_15 (by decide) (fun c9 => ?_) (fun c9 => ?_)
  · have hge : ¬ o < nD := fun h => nI_ge h (by omega) (by rw [← hN.2.2.1]; exact c9)
    refine lv_aload_n hx hb dX5_readFromRecords_28 rfl (lv_at hl 1 rfl) ?_
    refine lv_aload_n hx hb dX5_readFromRecords_29 rfl (lv_at hl 2 rfl) ?_
    refine kk_getN hx hb hts hown hE hW (hC.r hr9) rfl hiRX2 0 (by decide) (hE.N 5 rfl) (fun _ h9 => h9) rfl dX5_readFromRecords_30 ?_
    refine kk_v (va_runV (As := [.ref (ad (10 + r / 4))]) (rest := []) ⟨hx, hb, hml, hown, hts⟩ (k_X5_clean l D A ad w S nT nC nD nM nZ hC hN (r / 4) (by omega)) (cwV 1 hts gX5_readFromRecords_X5_clean rfl rfl rfl (by decide +kernel) ⟨Nat.le_of_ble_eq_true rfl, Nat.le_of_ble_eq_true rfl⟩) (kV hE hW hC.u rfl _) rfl rfl hl.1 rfl (lv_room (Nat.le_of_ble_eq_true rfl)) dX5_readFromRecords_33 ⟨Nat.le_of_ble_eq_true rfl, Nat.le_of_ble_eq_true rfl⟩) hW (fun ad10 w11 H14 locs hp12 hW => ?_)
    obtain ⟨e2, hC, hF⟩ := hp12
    rw [e2] at hW
    have hN2 := hN.cl (r / 4)
    refine lv_aload_n hx hb dX5_readFromRecords_36 rfl (lv_at hl 1 rfl) ?_
    refine lv_iload hx hb dX5_readFromRecords_37 (lv_at hl 0 rfl) ?_
    refine lv_aload_n hx hb dX5_readFromRecords_39 rfl (lv_at hl 2 rfl) ?_
    refine kk_i (va_runV (As := [.int (nI o), .ref (ad (24 + r))]) (rest := []) ⟨hx, hb, hml, hown, hts⟩ (k_X5_valueAheadOf l D A ad w11 (cleanS S (r / 4)) nT nC nD nM nZ hC hN2 o ho9 r hr9) (cwV 2 hts gX5_readFromRecords_X5_valueAheadOf rfl rfl rfl (by decide +kernel) ⟨Nat.le_of_ble_eq_true rfl, Nat.le_of_ble_eq_true rfl⟩) (kV hE hW hC.u rfl _) rfl rfl hl.1 rfl (lv_room (Nat.le_of_ble_eq_true rfl)) dX5_readFromRecords_40 ⟨Nat.le_of_ble_eq_true rfl, Nat.le_of_ble_eq_true rfl⟩) hW (fun r18 ad15 w16 H19 locs hp17 hW => ?_)
    obtain ⟨e20, e21, e22⟩ := hp17
    rw [e21, e22] at hW
    subst e20
    exact vx_ret (ke_i hx hb hr hlocks (Nat.le_of_ble_eq_true rfl) (Nat.le_of_ble_eq_true rfl) dX5_readFromRecords_43 hW (⟨by rw [hv9, cleanS_n S (r / 4) (c := 6) (by decide) (by decide), cleanS_n S (r / 4) (c := 0) (by decide) (by decide)], by rw [hv9]; exact bI_0 hge, rfl, hC, hF⟩))
  · have hlt : o < nD := by
      rcases Nat.lt_or_ge o nD with h | h
      · exact h
      · exact absurd (by rw [hN.2.2.1]; exact nI_le h (by omega)) c9
    exact kk_throwN hx hb hnt hown (fun w h => hts w (List.mem_cons_of_mem _ (List.mem_append_right _ h))) (hts (.classLink RX5 231 "java/util/NoSuchElementException") (by decide +kernel)) (hts (.initialized "java/util/NoSuchElementException") (by decide +kernel)) hE hW (hl.1.trans hml.symm) (hE.R 15 rfl) dX5_readFromRecords_18 dX5_readFromRecords_21 dX5_readFromRecords_22 dX5_readFromRecords_24 dX5_readFromRecords_27 hout ⟨Nat.le_of_ble_eq_true rfl, Nat.le_of_ble_eq_true rfl, Nat.le_of_ble_eq_true rfl, Nat.le_of_ble_eq_true rfl⟩ hlocks (⟨rfl, by rw [hv9]; show ¬ bI (o < nD) = 0; rw [bI_1 hlt]; decide⟩) (Nat.le_of_ble_eq_true rfl) (Nat.le_of_ble_eq_true rfl)

set_option maxHeartbeats 4000000 in
set_option maxRecDepth 100000 in
/-- k_X5_readFromRecords_t -/
theorem k_X5_readFromRecords_t (l : Launch) (hnt : l.stackTraces = false) (D : va_G) (A : Nat → Prop) (ad : Nat → Nat) (w : kWd) (S : St) (nT nC nD nM nZ : Nat) (hC : CW D S ad w nT nC) (hN : SN S nT nC nD nM nZ) (r : Nat) (hr9 : r < 12) (mm : Int32) (u : Nat) (hu : u < nT)  : vx_Met l yX5_readFromRecords wsX5_readFromRecords ({ frames := 6, cells := 1, slots := 6, locals := 100 }) (kPc D A [.ref (ad 0), .ref (ad (24 + r)), .int mm, .ref (ad (tkey u))] ad w) (kQi D A (fun v ad' w' => v = (vaV S mm (nI r) (nI u)).1 ∧ (vaV S mm (nI r) (nI u)).2 = 0 ∧ ad' = ad ∧ CW D (cleanS S (r / 4)) ad w' nT nC ∧ FrC ad w ad w')) (kX D A (fun E => E = xNS ∧ ¬ (vaV S mm (nI r) (nI u)).2 = 0) ad w) 1 6 A := by
  refine vx_ofW (cc := cX5_readFromRecords) (maxL := 5) (ret := (some (.int))) (by decide) rfl ?_
  intro p e s m args below meth c s₁ B hml hout hv
  obtain ⟨rfl, hE, hW0, hI0, hA⟩ := hv
  have hx := B.exec
  have hb := B.bytes
  have hr := B.returns
  have hts := atoms_spec (ws := wsX5_readFromRecords) B.pre
  have hown : s.vm.findClass RX5 = some m.cls := findClass_of_methodNamed B.named
  have hlocks := B.notSynchronized
  have hiRX2 : ∀ w ∈ wsX20, w ∈ wsX5_readFromRecords := by decide +kernel
  have hiRX5 : ∀ w ∈ wsX50, w ∈ wsX5_readFromRecords := by decide +kernel
  have hW : kS D A s.heap ad w s.heap [] := ⟨hW0, hI0, va_S.rf, hA⟩
  have hl := lv_entry ([.ref (ad 0), .ref (ad (24 + r)), .int mm, .ref (ad (tkey u))]) (n := 5) (Nat.le_of_ble_eq_true rfl)
  rw [lg_entry_eq]
  generalize (lg_sl ([.ref (ad 0), .ref (ad (24 + r)), .int mm, .ref (ad (tkey u))]) ++ List.replicate (5 - (lg_sl ([.ref (ad 0), .ref (ad (24 + r)), .int mm, .ref (ad (tkey u))])).length) Slot.unset).toArray = ls at hl ⊢
  have hl : lv_has ls 5 [(0, .ref (ad 0)), (1, .ref (ad (24 + r))), (2, .int mm), (3, .ref (ad (tkey u)))] := hl
  have h60 := hN.2.2.2.2.2.1
  have h512 := hN.2.2.2.2.2.2.1
  have hd := hN.2.2.2.2.2.2.2.1
  have hv9 := vaV_olL (m := mm) (t := (nI u)) hN.2.1 hN.2.2.1 h512 hd hr9
  have ho9 := olL_le S mm (nI r) (nI u) nC nC (Nat.le_refl _)
  obtain ⟨o, ho⟩ : ∃ o, o = olL S mm (nI r) (nI u) nC nC := ⟨_, rfl⟩
  rw [← ho] at hv9 ho9
  refine lv_aload_n hx hb dX5_readFromRecords_0 rfl (lv_at hl 0 rfl) ?_
  refine lv_aload_n hx hb dX5_readFromRecords_1 rfl (lv_at hl 1 rfl) ?_
  refine lv_iload_n hx hb dX5_readFromRecords_2 rfl (lv_at hl 2 rfl) ?_
  refine lv_aload_n hx hb dX5_readFromRecords_3 rfl (lv_at hl 3 rfl) ?_
  refine kk_i (va_runV (As := [.ref (ad (24 + r)), .int mm, .ref (ad (tkey u))]) (rest := []) ⟨hx, hb, hml, hown, hts⟩ (k_X5_oldestUnseen_t l D A ad w S nT nC nD nM nZ hC hN r hr9 mm u hu) (cwV 3 hts gX5_readFromRecords_X5_oldestUnseen rfl rfl rfl (by decide +kernel) ⟨Nat.le_of_ble_eq_true rfl, Nat.le_of_ble_eq_true rfl⟩) (kV hE hW hC.u rfl _) rfl rfl hl.1 rfl (lv_room (Nat.le_of_ble_eq_true rfl)) dX5_readFromRecords_4 ⟨Nat.le_of_ble_eq_true rfl, Nat.le_of_ble_eq_true rfl⟩) hW (fun r4 ad1 w2 H5 locs hp3 hW => ?_)
  obtain ⟨e6, e7, e8⟩ := hp3
  rw [e7, e8] at hW
  subst e6
  rw [← ho]
  refine lv_istore (lv' := [(4, .int (nI o)), (0, .ref (ad 0)), (1, .ref (ad (24 + r))), (2, .int mm), (3, .ref (ad (tkey u)))]) hx hb dX5_readFromRecords_7 hl (by decide) rfl (fun ls hl => ?_)
  refine lv_iload hx hb dX5_readFromRecords_9 (lv_at hl 0 rfl) ?_
  refine lv_aload_n hx hb dX5_readFromRecords_11 rfl (lv_at hl 1 rfl) ?_
  refine kk_get hx hb hts hown hE hW hC.u rfl hiRX5 7 (by decide) (hts (.fieldLink RX5 41 "UndoCellar" "droppedSoFar" "I") (by decide +kernel)) (fun _ h9 => h9) rfl dX5_readFromRecords_12 ?_
  refine lv_icmp_ge (tgt := 28) hx hb dX5_readFromRecords_15 (by decide) (fun c9 => ?_) (fun c9 => ?_)
  · have hge : ¬ o < nD := fun h => nI_ge h (by omega) (by rw [← hN.2.2.1]; exact c9)
    refine lv_aload_n hx hb dX5_readFromRecords_28 rfl (lv_at hl 1 rfl) ?_
    refine lv_aload_n hx hb dX5_readFromRecords_29 rfl (lv_at hl 2 rfl) ?_
    refine kk_getN hx hb hts hown hE hW (hC.r hr9) rfl hiRX2 0 (by decide) (hE.N 5 rfl) (fun _ h9 => h9) rfl dX5_readFromRecords_30 ?_
    refine kk_v (va_runV (As := [.ref (ad (10 + r / 4))]) (rest := []) ⟨hx, hb, hml, hown, hts⟩ (k_X5_clean l D A ad w S nT nC nD nM nZ hC hN (r / 4) (by omega)) (cwV 1 hts gX5_readFromRecords_X5_clean rfl rfl rfl (by decide +kernel) ⟨Nat.le_of_ble_eq_true rfl, Nat.le_of_ble_eq_true rfl⟩) (kV hE hW hC.u rfl _) rfl rfl hl.1 rfl (lv_room (Nat.le_of_ble_eq_true rfl)) dX5_readFromRecords_33 ⟨Nat.le_of_ble_eq_true rfl, Nat.le_of_ble_eq_true rfl⟩) hW (fun ad10 w11 H14 locs hp12 hW => ?_)
    obtain ⟨e2, hC, hF⟩ := hp12
    rw [e2] at hW
    have hN2 := hN.cl (r / 4)
    refine lv_aload_n hx hb dX5_readFromRecords_36 rfl (lv_at hl 1 rfl) ?_
    refine lv_iload hx hb dX5_readFromRecords_37 (lv_at hl 0 rfl) ?_
    refine lv_aload_n hx hb dX5_readFromRecords_39 rfl (lv_at hl 2 rfl) ?_
    refine kk_i (va_runV (As := [.int (nI o), .ref (ad (24 + r))]) (rest := []) ⟨hx, hb, hml, hown, hts⟩ (k_X5_valueAheadOf l D A ad w11 (cleanS S (r / 4)) nT nC nD nM nZ hC hN2 o ho9 r hr9) (cwV 2 hts gX5_readFromRecords_X5_valueAheadOf rfl rfl rfl (by decide +kernel) ⟨Nat.le_of_ble_eq_true rfl, Nat.le_of_ble_eq_true rfl⟩) (kV hE hW hC.u rfl _) rfl rfl hl.1 rfl (lv_room (Nat.le_of_ble_eq_true rfl)) dX5_readFromRecords_40 ⟨Nat.le_of_ble_eq_true rfl, Nat.le_of_ble_eq_true rfl⟩) hW (fun r18 ad15 w16 H19 locs hp17 hW => ?_)
    obtain ⟨e20, e21, e22⟩ := hp17
    rw [e21, e22] at hW
    subst e20
    exact vx_ret (ke_i hx hb hr hlocks (Nat.le_of_ble_eq_true rfl) (Nat.le_of_ble_eq_true rfl) dX5_readFromRecords_43 hW (⟨by rw [hv9, cleanS_n S (r / 4) (c := 6) (by decide) (by decide), cleanS_n S (r / 4) (c := 0) (by decide) (by decide)], by rw [hv9]; exact bI_0 hge, rfl, hC, hF⟩))
  · have hlt : o < nD := by
      rcases Nat.lt_or_ge o nD with h | h
      · exact h
      · exact absurd (by rw [hN.2.2.1]; exact nI_le h (by omega)) c9
    exact kk_throwN hx hb hnt hown (fun w h => hts w (List.mem_cons_of_mem _ (List.mem_append_right _ h))) (hts (.classLink RX5 231 "java/util/NoSuchElementException") (by decide +kernel)) (hts (.initialized "java/util/NoSuchElementException") (by decide +kernel)) hE hW (hl.1.trans hml.symm) (hE.R 15 rfl) dX5_readFromRecords_18 dX5_readFromRecords_21 dX5_readFromRecords_22 dX5_readFromRecords_24 dX5_readFromRecords_27 hout ⟨Nat.le_of_ble_eq_true rfl, Nat.le_of_ble_eq_true rfl, Nat.le_of_ble_eq_true rfl, Nat.le_of_ble_eq_true rfl⟩ hlocks (⟨rfl, by rw [hv9]; show ¬ bI (o < nD) = 0; rw [bI_1 hlt]; decide⟩) (Nat.le_of_ble_eq_true rfl) (Nat.le_of_ble_eq_true rfl)

set_option maxHeartbeats 4000000 in
set_option maxRecDepth 100000 in
/-- k_X5_undoDownTo -/
theorem k_X5_undoDownTo (l : Launch) (D : va_G) (A : Nat → Prop) (ad : Nat → Nat) (w : kWd) (S : St) (nT nC nD nM nZ : Nat) (hC : CW D S ad w nT nC) (hN : SN S nT nC nD nM nZ) (u : Nat) (hu : u < nT) (q kp : Nat) (hq : stL S (nI u) nC = nI q) (hkq : kp ≤ q) (hqC : q ≤ nC) : Met l yX5_undoDownTo wsX5_undoDownTo ({ frames := 3, cells := 0, slots := 0, locals := 64 }) (kPc D A [.ref (ad 0), .ref (ad (tkey u)), .int (nI kp)] ad w) (kQi D A (fun v ad' w' => v = nI q - nI kp ∧ ad' = ad ∧ CW D (unL (nI u) nC (nI q - nI kp) S) ad w' nT nC ∧ FrC ad w ad w')) 0 0 A := by
  refine Met.ofW (cc := cX5_undoDownTo) (maxL := 6) (ret := (some (.int))) (by decide) rfl ?_
  intro p e s m args below meth c s₁ B hml hv
  obtain ⟨rfl, hE, hW0, hI0, hA⟩ := hv
  have hx := B.exec
  have hb := B.bytes
  have hr := B.returns
  have hts := atoms_spec (ws := wsX5_undoDownTo) B.pre
  have hown : s.vm.findClass RX5 = some m.cls := findClass_of_methodNamed B.named
  have hlocks := B.notSynchronized
  have hiRX1 : ∀ w ∈ wsX10, w ∈ wsX5_undoDownTo := by decide +kernel
  have hiRX4 : ∀ w ∈ wsX40, w ∈ wsX5_undoDownTo := by decide +kernel
  have hiRX5 : ∀ w ∈ wsX50, w ∈ wsX5_undoDownTo := by decide +kernel
  have hW : kS D A s.heap ad w s.heap [] := ⟨hW0, hI0, va_S.rf, hA⟩
  have hl := lv_entry ([.ref (ad 0), .ref (ad (tkey u)), .int (nI kp)]) (n := 6) (Nat.le_of_ble_eq_true rfl)
  rw [lg_entry_eq]
  generalize (lg_sl ([.ref (ad 0), .ref (ad (tkey u)), .int (nI kp)]) ++ List.replicate (6 - (lg_sl ([.ref (ad 0), .ref (ad (tkey u)), .int (nI kp)])).length) Slot.unset).toArray = ls at hl ⊢
  have hl : lv_has ls 6 [(0, .ref (ad 0)), (1, .ref (ad (tkey u))), (2, .int (nI kp))] := hl
  have h60 := hN.2.2.2.2.2.1
  have h512 := hN.2.2.2.2.2.2.1
  have loop : ∀ (n q1 : Nat) (T : St) (w1 : kWd) (H : Heap) (locs : List Loc), n ≤ nC → stL T (nI u) nC = nI q1 → kp ≤ q1 → q1 ≤ q → unL (nI u) n (nI q1 - nI kp) T = unL (nI u) nC (nI q - nI kp) S → (∀ k, n ≤ k → k < nC → ¬ (T 4 k = nI u ∧ T 7 k = 0)) → CW D T ad w1 nT nC → SN T nT nC nD nM nZ → FrC ad w ad w1 → kS D A s.heap ad w1 H locs → ∀ ls, lv_has ls 6 [(4, .int (nI n - 1)), (3, .int (nI q - nI q1)), (0, .ref (ad 0)), (1, .ref (ad (tkey u))), (2, .int (nI kp))] → W p l e ({ frames := 3, cells := 0, slots := 0, locals := 64 }) s m ([.ref (ad 0), .ref (ad (tkey u)), .int (nI kp)] : List Value).toArray below meth c H locs 0 0 (MQ below (kQi D A (fun v ad' w' => v = nI q - nI kp ∧ ad' = ad ∧ CW D (unL (nI u) nC (nI q - nI kp) S) ad w' nT nC ∧ FrC ad w ad w')) ([.ref (ad 0), .ref (ad (tkey u)), .int (nI kp)] : List Value).toArray s 0 0 A) (F0 m 13 ls []) := by
    intro n
    induction n with
    | zero =>
      intro q1 T w1 H locs hn9 hs h1 h2 he hz hC hN hF hW ls hl
      have h0 : q1 = 0 := by
        rw [stL_top nC (Nat.zero_le _) hz] at hs
        exact ((nI_eq (a := 0) (b := q1) (by decide) (by omega)).mp hs).symm
      obtain rfl : kp = 0 := by omega
      subst h0
      refine lv_iload hx hb dX5_undoDownTo_13 (lv_at hl 0 rfl) ?_
      refine lv_if_lt (tgt := 71) hx hb dX5_undoDownTo_15 (by decide) (fun _ => ?_) (fun c9 => absurd (nI_m1) c9)
      refine lv_iload_n hx hb dX5_undoDownTo_71 rfl (lv_at hl 1 rfl) ?_
      exact ke_i hx hb hr hlocks (Nat.le_of_ble_eq_true rfl) (Nat.le_of_ble_eq_true rfl) dX5_undoDownTo_72 hW (⟨rfl, rfl, by rw [← he]; exact hC, hF⟩)
    | succ n ih =>
      intro q1 T w1 H locs hn9 hs h1 h2 he hz hC hN hF hW ls hl
      rw [nI_dn] at hl
      refine lv_iload hx hb dX5_undoDownTo_13 (lv_at hl 0 rfl) ?_
      refine lv_if_lt (tgt := 71) hx hb dX5_undoDownTo_15 (by decide) (fun c9 => absurd c9 (nI_pos (by omega))) (fun _ => ?_)
      refine lv_aload_n hx hb dX5_undoDownTo_18 rfl (lv_at hl 3 rfl) ?_
      refine kk_getN hx hb hts hown hE hW (hC.t hu) rfl hiRX4 4 (by decide) (hE.N 14 rfl) (fun _ h9 => h9) rfl dX5_undoDownTo_19 ?_
      rw [hs]
      refine lv_iload_n hx hb dX5_undoDownTo_22 rfl (lv_at hl 4 rfl) ?_
      refine lv_icmp_le (tgt := 71) hx hb dX5_undoDownTo_23 (by decide) (fun c1 => ?_) (fun c1 => ?_)
      · have h3 : q1 = kp := by
          rcases Nat.lt_or_ge kp q1 with h | h
          · exact absurd c1 (nI_ge h (by omega))
          · omega
        subst h3
        refine lv_iload_n hx hb dX5_undoDownTo_71 rfl (lv_at hl 1 rfl) ?_
        exact ke_i hx hb hr hlocks (Nat.le_of_ble_eq_true rfl) (Nat.le_of_ble_eq_true rfl) dX5_undoDownTo_72 hW (⟨rfl, rfl, by rw [← he, show unL (nI u) (n + 1) (nI q1 - nI q1) T = T from if_neg (by rw [Int32.sub_self]; decide)]; exact hC, hF⟩)
      · have h3 : kp < q1 := by
          rcases Nat.lt_or_ge kp q1 with h | h
          · exact h
          · exact absurd (nI_le h (by omega)) c1
        have hpos : (0 : Int32) < nI q1 - nI kp := by
          rw [pk_sub h1]
          exact nI_lt (show 0 < q1 - kp by omega) (by omega)
        obtain ⟨t, ht, h4⟩ := hN.by (k := n) (by omega)
        obtain ⟨r0, hr0, h5⟩ := hN.ro (k := n) (by omega)
        have hcc := hC.cc (k := n) (by omega) h4 (by omega) h5 hr0
        refine lv_aload_n hx hb dX5_undoDownTo_26 rfl (lv_at hl 2 rfl) ?_
        refine kk_get hx hb hts hown hE hW hC.u rfl hiRX5 3 (by decide) (hts (.fieldLink RX5 28 "UndoCellar" "changes" "Ljava/util/ArrayList;") (by decide +kernel)) (fun _ h9 => h9) rfl dX5_undoDownTo_27 ?_
        refine lv_iload hx hb dX5_undoDownTo_30 (lv_at hl 0 rfl) ?_
        obtain ⟨_, _, _, ehL2, hL2, -⟩ := id hC.lc
        refine kk_q (va_runV (As := [.int (nI n)]) (rest := []) ⟨hx, hb, hml, hown, hts⟩ (c_get l D A ad w1 4 6 nC ckey hC.lc (by omega) n (by omega)) (cwV 1 hts gX5_undoDownTo_Jx4a65c_get_915e3 rfl rfl rfl (by decide +kernel) ⟨Nat.le_of_ble_eq_true rfl, Nat.le_of_ble_eq_true rfl⟩) (kV hE hW hL2 rfl _) rfl rfl hl.1 rfl (lv_room (Nat.le_of_ble_eq_true rfl)) dX5_undoDownTo_32 ⟨Nat.le_of_ble_eq_true rfl, Nat.le_of_ble_eq_true rfl⟩) hW (fun r6 ad3 w4 H7 locs hp5 hW => ?_)
        obtain ⟨e1, e2, e3⟩ := hp5
        rw [e2, e3] at hW
        subst e1
        refine W.eq (g2 := F0 m 35 ls [.ref (ad (ckey n))]) rfl ?_
        refine kk_cast hx hb hown (hts (.classLink RX5 126 "UndoCellar$Change") (by decide +kernel)) hE hW hcc rfl dX5_undoDownTo_35 ?_
        refine lv_astore (lv' := [(5, .ref (ad (ckey n))), (4, .int (nI n)), (3, .int (nI q - nI q1)), (0, .ref (ad 0)), (1, .ref (ad (tkey u))), (2, .int (nI kp))]) hx hb dX5_undoDownTo_38 hl (by decide) rfl (fun ls hl => ?_)
        refine lv_aload hx hb dX5_undoDownTo_40 (lv_at hl 0 rfl) ?_
        refine kk_getN hx hb hts hown hE hW hcc rfl hiRX1 0 (by decide) (hE.N 15 rfl) (fun _ h9 => h9) rfl dX5_undoDownTo_42 ?_
        refine lv_aload_n hx hb dX5_undoDownTo_45 rfl (lv_at hl 4 rfl) ?_
        have hiff : some (ad (tkey t)) = some (ad (tkey u)) ↔ T 4 n = nI u := by
          rw [hW.inj (hC.t ht) (hC.t hu), h4]
          constructor
          · intro q9
            have : 100 + 2 * t = 100 + 2 * u := q9
            rw [show t = u by omega]
          · intro q9
            have := (nI_eq (by omega) (by omega)).mp q9
            rw [this]
        refine lv_acmp_ne (rx := some (ad (tkey t))) (ry := some (ad (tkey u))) (tgt := 65) hx hb dX5_undoDownTo_46 (by decide) (fun c8 => ?_) (fun c8 => ?_)
        · have hne : ¬ (T 4 n = nI u ∧ T 7 n = 0) := fun q9 => c8 (hiff.mpr q9.1)
          refine lv_iinc (v := nI n - 1) (lv' := [(4, .int (nI n - 1)), (5, .ref (ad (ckey n))), (3, .int (nI q - nI q1)), (0, .ref (ad 0)), (1, .ref (ad (tkey u))), (2, .int (nI kp))]) hx hb dX5_undoDownTo_65 hl (k := 1) rfl (i_sub1 _) (by decide) rfl (fun ls hl => ?_)
          refine lv_goto (tgt := 13) hx hb dX5_undoDownTo_68 (by decide) ?_
          exact ih q1 T w1 _ _ (by omega) hs h1 h2 (by rw [← he]; exact ((if_pos hpos).trans (if_neg hne)).symm) (fun k a b => by rcases Nat.lt_or_ge n k with z | z; exact hz k (by omega) b; rw [show k = n by omega]; exact hne) hC hN hF hW ls (lv_sub hl [0, 2, 3, 4, 5] rfl)
        · refine lv_aload hx hb dX5_undoDownTo_49 (lv_at hl 0 rfl) ?_
          refine kk_getN hx hb hts hown hE hW hcc rfl hiRX1 3 (by decide) (hE.N 17 rfl) (fun _ h9 => h9) rfl dX5_undoDownTo_51 ?_
          refine lv_if_ne (tgt := 65) hx hb dX5_undoDownTo_54 (by decide) (fun c9 => ?_) (fun c9 => ?_)
          · have hne : ¬ (T 4 n = nI u ∧ T 7 n = 0) := fun q9 => c9 q9.2
            refine lv_iinc (v := nI n - 1) (lv' := [(4, .int (nI n - 1)), (5, .ref (ad (ckey n))), (3, .int (nI q - nI q1)), (0, .ref (ad 0)), (1, .ref (ad (tkey u))), (2, .int (nI kp))]) hx hb dX5_undoDownTo_65 hl (k := 1) rfl (i_sub1 _) (by decide) rfl (fun ls hl => ?_)
            refine lv_goto (tgt := 13) hx hb dX5_undoDownTo_68 (by decide) ?_
            exact ih q1 T w1 _ _ (by omega) hs h1 h2 (by rw [← he]; exact ((if_pos hpos).trans (if_neg hne)).symm) (fun k a b => by rcases Nat.lt_or_ge n k with z | z; exact hz k (by omega) b; rw [show k = n by omega]; exact hne) hC hN hF hW ls (lv_sub hl [0, 2, 3, 4, 5] rfl)
          · have hye : T 4 n = nI u ∧ T 7 n = 0 := ⟨hiff.mp c8, c9⟩
            refine lv_aload hx hb dX5_undoDownTo_57 (lv_at hl 0 rfl) ?_
            refine kk_v (va_runVN (As := []) (rest := []) ⟨hx, hb, hml, hown, hts⟩ (k_X1_takeBack l D A ad w1 T nT nC nD nM nZ hC hN n (by omega) hye.2) ⟨va_cnB 0 hts gX5_undoDownTo_X1_takeBack_n224 rfl rfl rfl (hE.N 22 rfl) (hts (.initialized RX1) (by decide +kernel)) (by decide +kernel) ⟨Nat.le_of_ble_eq_true rfl, Nat.le_of_ble_eq_true rfl⟩, hts (.instanceMethod yX1_takeBack) (by decide +kernel), hts (.selects RX1 yX1_takeBack yX1_takeBack) (by decide +kernel)⟩ (kV hE hW hcc rfl _) rfl rfl hl.1 rfl (lv_room (Nat.le_of_ble_eq_true rfl)) dX5_undoDownTo_59 ⟨Nat.le_of_ble_eq_true rfl, Nat.le_of_ble_eq_true rfl⟩) hW (fun ad10 w11 H14 locs hp12 hW => ?_)
            obtain ⟨e2, hC, hF2⟩ := hp12
            rw [e2] at hW
            have hs2 : stL (un1 T n) (nI u) nC = nI (q1 - 1) := by
              rw [stL_un hye.2, hs, if_pos ⟨by omega, hye.1⟩, show q1 = (q1 - 1) + 1 by omega, nI_dn, Nat.add_sub_cancel]
            have hy2 : nI q - nI q1 + 1 = nI q - nI (q1 - 1) := by
              rw [pk_sub h2, pk_sub (show q1 - 1 ≤ q by omega), nI_1]
              exact congrArg nI (by omega)
            refine lv_iinc (v := nI q - nI (q1 - 1)) (lv' := [(3, .int (nI q - nI (q1 - 1))), (5, .ref (ad (ckey n))), (4, .int (nI n)), (0, .ref (ad 0)), (1, .ref (ad (tkey u))), (2, .int (nI kp))]) hx hb dX5_undoDownTo_62 hl (k := 2) rfl (hy2) (by decide) rfl (fun ls hl => ?_)
            refine lv_iinc (v := nI n - 1) (lv' := [(4, .int (nI n - 1)), (3, .int (nI q - nI (q1 - 1))), (5, .ref (ad (ckey n))), (0, .ref (ad 0)), (1, .ref (ad (tkey u))), (2, .int (nI kp))]) hx hb dX5_undoDownTo_65 hl (k := 2) rfl (i_sub1 _) (by decide) rfl (fun ls hl => ?_)
            refine lv_goto (tgt := 13) hx hb dX5_undoDownTo_68 (by decide) ?_
            exact ih (q1 - 1) (un1 T n) w11 _ _ (by omega) hs2 (by omega) (by omega) (by rw [← he, show nI (q1 - 1) - nI kp = nI q1 - nI kp - 1 by rw [pk_sub h1, pk_sub (show kp ≤ q1 - 1 by omega), show q1 - kp = (q1 - 1 - kp) + 1 by omega, nI_dn]]; exact ((if_pos hpos).trans (if_pos hye)).symm) (fun k a b => by
              rcases Nat.lt_or_ge n k with z | z
              · intro q9
                refine hz k (by omega) b ⟨q9.1, ?_⟩
                have := q9.2
                rw [un1_7, upd_n (by omega)] at this
                exact this
              · obtain rfl : k = n := by omega
                intro q9
                have := q9.2
                rw [un1_7, upd_s] at this
                exact absurd this (by decide)) hC (hN.un (by omega)) (hF.tr hF2) hW ls (lv_sub hl [0, 1, 3, 4, 5] rfl)
  refine lv_iconst (v := 0) hx hb dX5_undoDownTo_0 (by decide) ?_
  refine lv_istore_n (lv' := [(3, .int 0), (0, .ref (ad 0)), (1, .ref (ad (tkey u))), (2, .int (nI kp))]) hx hb dX5_undoDownTo_1 rfl hl (by decide) rfl (fun ls hl => ?_)
  refine lv_aload_n hx hb dX5_undoDownTo_2 rfl (lv_at hl 1 rfl) ?_
  refine kk_get hx hb hts hown hE hW hC.u rfl hiRX5 3 (by decide) (hts (.fieldLink RX5 28 "UndoCellar" "changes" "Ljava/util/ArrayList;") (by decide +kernel)) (fun _ h9 => h9) rfl dX5_undoDownTo_3 ?_
  obtain ⟨_, _, _, ehL15, hL15, -⟩ := id hC.lc
  refine kk_i (va_runV (As := []) (rest := []) ⟨hx, hb, hml, hown, hts⟩ (c_size l D A ad w 4 6 nC ckey hC.lc) (cwV 0 hts gX5_undoDownTo_Jx4a65c_size_8abf5 rfl rfl rfl (by decide +kernel) ⟨Nat.le_of_ble_eq_true rfl, Nat.le_of_ble_eq_true rfl⟩) (kV hE hW hL15 rfl _) rfl rfl hl.1 rfl (lv_room (Nat.le_of_ble_eq_true rfl)) dX5_undoDownTo_6 ⟨Nat.le_of_ble_eq_true rfl, Nat.le_of_ble_eq_true rfl⟩) hW (fun r19 ad16 w17 H20 locs hp18 hW => ?_)
  obtain ⟨e21, e22, e23⟩ := hp18
  rw [e22, e23] at hW
  subst e21
  refine lv_iconst (v := 1) hx hb dX5_undoDownTo_9 (by decide) ?_
  refine lv_isub hx hb dX5_undoDownTo_10 ?_
  refine lv_istore (lv' := [(4, .int ((nI nC) - 1)), (3, .int 0), (0, .ref (ad 0)), (1, .ref (ad (tkey u))), (2, .int (nI kp))]) hx hb dX5_undoDownTo_11 hl (by decide) rfl (fun ls hl => ?_)
  exact loop nC q S w _ _ (Nat.le_refl _) hq hkq (Nat.le_refl _) rfl (fun k a b => absurd a (by omega)) hC hN FrC.rf hW ls (by rw [show (0 : Int32) = nI q - nI q from (Int32.sub_self _).symm] at hl; exact (lv_sub hl [0, 1, 2, 3, 4] rfl))

