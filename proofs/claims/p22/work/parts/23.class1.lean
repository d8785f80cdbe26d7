/-! the class: what reads -/
set_option maxHeartbeats 4000000 in
set_option maxRecDepth 100000 in
/-- k_X3_isEnded -/
theorem k_X3_isEnded (l : Launch) (D : va_G) (A : Nat → Prop) (ad : Nat → Nat) (w : kWd) (S : St) (nT nC nD nM nZ : Nat) (hC : CW D S ad w nT nC) (hN : SN S nT nC nD nM nZ) (i : Nat) (hi : i < 6) : Met l yX3_isEnded wsX3_isEnded ({ frames := 0, cells := 0, slots := 0, locals := 0 }) (kPc D A [.ref (ad (16 + i))] ad w) (kQi D A (fun v ad' w' => v = bI (S 8 i ≠ -1 ∧ ¬ actP S (S 8 i)) ∧ ad' = ad ∧ w' = w)) 0 0 A := by
  refine Met.ofW (cc := cX3_isEnded) (maxL := 1) (ret := (some (.boolean))) (by decide) rfl ?_
  intro p e s m args below meth c s₁ B hml hv
  obtain ⟨rfl, hE, hW0, hI0, hA⟩ := hv
  have hx := B.exec
  have hb := B.bytes
  have hr := B.returns
  have hts := atoms_spec (ws := wsX3_isEnded) B.pre
  have hown : s.vm.findClass RX3 = some m.cls := findClass_of_methodNamed B.named
  have hlocks := B.notSynchronized
  have hiRX3 : ∀ w ∈ wsX30, w ∈ wsX3_isEnded := by decide +kernel
  have hiRX4 : ∀ w ∈ wsX40, w ∈ wsX3_isEnded := by decide +kernel
  have hW : kS D A s.heap ad w s.heap [] := ⟨hW0, hI0, va_S.rf, hA⟩
  have hl := lv_entry ([.ref (ad (16 + i))]) (n := 1) (Nat.le_of_ble_eq_true rfl)
  rw [lg_entry_eq]
  generalize (lg_sl ([.ref (ad (16 + i))]) ++ List.replicate (1 - (lg_sl ([.ref (ad (16 + i))])).length) Slot.unset).toArray = ls at hl ⊢
  have hl : lv_has ls 1 [(0, .ref (ad (16 + i)))] := hl
  have h60 := hN.2.2.2.2.2.1
  rcases hN.sl hi with h8 | ⟨t, ht, h8⟩
  · refine lv_aload_n hx hb dX3_isEnded_0 rfl (lv_at hl 0 rfl) ?_
    refine kk_get hx hb hts hown hE hW (hC.sn hi h8) rfl hiRX3 0 (by decide) (hts (.fieldLink RX3 7 "UndoCellar$Slot" "holder" "LUndoCellar$Transaction;") (by decide +kernel)) (fun _ h9 => h9) rfl dX3_isEnded_1 ?_
    refine lv_ifnullN (tgt := 21) hx hb dX3_isEnded_4 (by decide) ?_
    refine lv_iconst (v := 0) hx hb dX3_isEnded_21 (by decide) ?_
    exact ke_z hx hb hr hlocks (Nat.le_of_ble_eq_true rfl) (Nat.le_of_ble_eq_true rfl) dX3_isEnded_22 (by first | exact Or.inl rfl | exact Or.inr rfl | assumption) hW (⟨(bI_0 (fun q => q.1 h8)).symm, rfl, rfl⟩)
  · refine lv_aload_n hx hb dX3_isEnded_0 rfl (lv_at hl 0 rfl) ?_
    refine kk_get hx hb hts hown hE hW (hC.ss hi h8 (by omega)) rfl hiRX3 0 (by decide) (hts (.fieldLink RX3 7 "UndoCellar$Slot" "holder" "LUndoCellar$Transaction;") (by decide +kernel)) (fun _ h9 => h9) rfl dX3_isEnded_1 ?_
    refine lv_ifnull hx hb dX3_isEnded_4 ?_
    refine lv_aload_n hx hb dX3_isEnded_7 rfl (lv_at hl 0 rfl) ?_
    refine kk_get hx hb hts hown hE hW (hC.ss hi h8 (by omega)) rfl hiRX3 0 (by decide) (hts (.fieldLink RX3 7 "UndoCellar$Slot" "holder" "LUndoCellar$Transaction;") (by decide +kernel)) (fun _ h9 => h9) rfl dX3_isEnded_8 ?_
    refine kk_getN hx hb hts hown hE hW (hC.t (by assumption)) rfl hiRX4 2 (by decide) (hE.N 10 rfl) (fun _ h9 => h9) rfl dX3_isEnded_11 ?_
    have hnv : nv (S 8 i) = t := by rw [h8]; exact nv_nI (by omega)
    refine lv_if_ne (tgt := 21) hx hb dX3_isEnded_14 (by decide) (fun c1 => ?_) (fun c1 => ?_)
    · refine lv_iconst (v := 0) hx hb dX3_isEnded_21 (by decide) ?_
      exact ke_z hx hb hr hlocks (Nat.le_of_ble_eq_true rfl) (Nat.le_of_ble_eq_true rfl) dX3_isEnded_22 (by first | exact Or.inl rfl | exact Or.inr rfl | assumption) hW (⟨(bI_0 (fun q => q.2 (by show S 1 (nv (S 8 i)) = 0; rw [hnv]; exact bI_t c1))).symm, rfl, rfl⟩)
    · refine lv_iconst (v := 1) hx hb dX3_isEnded_17 (by decide) ?_
      refine lv_goto (tgt := 22) hx hb dX3_isEnded_18 (by decide) ?_
      exact ke_z hx hb hr hlocks (Nat.le_of_ble_eq_true rfl) (Nat.le_of_ble_eq_true rfl) dX3_isEnded_22 (by first | exact Or.inl rfl | exact Or.inr rfl | assumption) hW (⟨(bI_1 ⟨by rw [h8]; exact nI_nm1 (by omega), fun q => (bI_f c1) (by rw [← hnv]; exact q)⟩).symm, rfl, rfl⟩)

set_option maxHeartbeats 4000000 in
set_option maxRecDepth 100000 in
/-- k_X4_isCommittedBy -/
theorem k_X4_isCommittedBy (l : Launch) (D : va_G) (A : Nat → Prop) (ad : Nat → Nat) (w : kWd) (S : St) (nT nC nD nM nZ : Nat) (hC : CW D S ad w nT nC) (hN : SN S nT nC nD nM nZ) (t : Nat) (ht : t < nT) (mm : Int32) : Met l yX4_isCommittedBy wsX4_isCommittedBy ({ frames := 0, cells := 0, slots := 0, locals := 0 }) (kPc D A [.ref (ad (tkey t)), .int mm] ad w) (kQi D A (fun v ad' w' => v = bI (S 1 t = 1 ∧ S 3 t ≤ mm) ∧ ad' = ad ∧ w' = w)) 0 0 A := by
  refine Met.ofW (cc := cX4_isCommittedBy) (maxL := 2) (ret := (some (.boolean))) (by decide) rfl ?_
  intro p e s m args below meth c s₁ B hml hv
  obtain ⟨rfl, hE, hW0, hI0, hA⟩ := hv
  have hx := B.exec
  have hb := B.bytes
  have hr := B.returns
  have hts := atoms_spec (ws := wsX4_isCommittedBy) B.pre
  have hown : s.vm.findClass RX4 = some m.cls := findClass_of_methodNamed B.named
  have hlocks := B.notSynchronized
  have hiRX4 : ∀ w ∈ wsX40, w ∈ wsX4_isCommittedBy := by decide +kernel
  have hW : kS D A s.heap ad w s.heap [] := ⟨hW0, hI0, va_S.rf, hA⟩
  have hl := lv_entry ([.ref (ad (tkey t)), .int mm]) (n := 2) (Nat.le_of_ble_eq_true rfl)
  rw [lg_entry_eq]
  generalize (lg_sl ([.ref (ad (tkey t)), .int mm]) ++ List.replicate (2 - (lg_sl ([.ref (ad (tkey t)), .int mm])).length) Slot.unset).toArray = ls at hl ⊢
  have hl : lv_has ls 2 [(0, .ref (ad (tkey t))), (1, .int mm)] := hl
  by_cases h1 : S 1 t = 1
  · obtain ⟨j, hj1, hj2, hj⟩ := hN.ca ht h1
    have hm := hN.2.2.2.2.2.2.2.2.1
    refine lv_aload_n hx hb dX4_isCommittedBy_0 rfl (lv_at hl 0 rfl) ?_
    refine kk_get hx hb hts hown hE hW (show w (tkey t) = some (.inr (5, [.int (nI t), .int (S 2 t), .int (bI (S 1 t = 0)), .int (S 3 t), .int (stL S (nI t) nC)])) from by rw [hC.t ht]; unfold tCell; rw [if_pos h1]) rfl hiRX4 3 (by decide) (hts (.fieldLink RX4 15 "UndoCellar$Transaction" "committedAt" "I") (by decide +kernel)) (fun _ h9 => h9) rfl dX4_isCommittedBy_1 ?_
    refine lv_iconst (v := (-1)) hx hb dX4_isCommittedBy_4 (by decide) ?_
    refine lv_icmp_eq (tgt := 20) hx hb dX4_isCommittedBy_5 (by decide) (fun c9 => absurd c9 (by rw [hj]; exact nI_nm1 (by omega))) (fun _ => ?_)
    refine lv_aload_n hx hb dX4_isCommittedBy_8 rfl (lv_at hl 0 rfl) ?_
    refine kk_get hx hb hts hown hE hW (show w (tkey t) = some (.inr (5, [.int (nI t), .int (S 2 t), .int (bI (S 1 t = 0)), .int (S 3 t), .int (stL S (nI t) nC)])) from by rw [hC.t ht]; unfold tCell; rw [if_pos h1]) rfl hiRX4 3 (by decide) (hts (.fieldLink RX4 15 "UndoCellar$Transaction" "committedAt" "I") (by decide +kernel)) (fun _ h9 => h9) rfl dX4_isCommittedBy_9 ?_
    refine lv_iload_n hx hb dX4_isCommittedBy_12 rfl (lv_at hl 1 rfl) ?_
    refine lv_icmp_gt (tgt := 20) hx hb dX4_isCommittedBy_13 (by decide) (fun c1 => ?_) (fun c1 => ?_)
    · refine lv_iconst (v := 0) hx hb dX4_isCommittedBy_20 (by decide) ?_
      exact ke_z hx hb hr hlocks (Nat.le_of_ble_eq_true rfl) (Nat.le_of_ble_eq_true rfl) dX4_isCommittedBy_21 (by first | exact Or.inl rfl | exact Or.inr rfl | assumption) hW (⟨(bI_0 (fun q => Int32.not_le.mpr c1 q.2)).symm, rfl, rfl⟩)
    · refine lv_iconst (v := 1) hx hb dX4_isCommittedBy_16 (by decide) ?_
      refine lv_goto (tgt := 21) hx hb dX4_isCommittedBy_17 (by decide) ?_
      exact ke_z hx hb hr hlocks (Nat.le_of_ble_eq_true rfl) (Nat.le_of_ble_eq_true rfl) dX4_isCommittedBy_21 (by first | exact Or.inl rfl | exact Or.inr rfl | assumption) hW (⟨(bI_1 ⟨h1, Int32.not_lt.mp c1⟩).symm, rfl, rfl⟩)
  · refine lv_aload_n hx hb dX4_isCommittedBy_0 rfl (lv_at hl 0 rfl) ?_
    refine kk_get hx hb hts hown hE hW (show w (tkey t) = some (.inr (5, [.int (nI t), .int (S 2 t), .int (bI (S 1 t = 0)), .int (-1), .int (stL S (nI t) nC)])) from by rw [hC.t ht]; unfold tCell; rw [if_neg h1]) rfl hiRX4 3 (by decide) (hts (.fieldLink RX4 15 "UndoCellar$Transaction" "committedAt" "I") (by decide +kernel)) (fun _ h9 => h9) rfl dX4_isCommittedBy_1 ?_
    refine lv_iconst (v := (-1)) hx hb dX4_isCommittedBy_4 (by decide) ?_
    refine lv_icmp_eq (tgt := 20) hx hb dX4_isCommittedBy_5 (by decide) (fun _ => ?_) (fun c9 => absurd (rfl) c9)
    refine lv_iconst (v := 0) hx hb dX4_isCommittedBy_20 (by decide) ?_
    exact ke_z hx hb hr hlocks (Nat.le_of_ble_eq_true rfl) (Nat.le_of_ble_eq_true rfl) dX4_isCommittedBy_21 (by first | exact Or.inl rfl | exact Or.inr rfl | assumption) hW (⟨(bI_0 (fun q => h1 q.1)).symm, rfl, rfl⟩)

set_option maxHeartbeats 4000000 in
set_option maxRecDepth 100000 in
/-- k_X1_stands -/
theorem k_X1_stands (l : Launch) (D : va_G) (A : Nat → Prop) (ad : Nat → Nat) (w : kWd) (S : St) (nT nC nD nM nZ : Nat) (hC : CW D S ad w nT nC) (hN : SN S nT nC nD nM nZ) (k : Nat) (hk : k < nC) (r : Nat) (hr9 : r < 12) : Met l yX1_stands wsX1_stands ({ frames := 0, cells := 0, slots := 0, locals := 0 }) (kPc D A [.ref (ad (ckey k)), .ref (ad (24 + r))] ad w) (kQi D A (fun v ad' w' => v = bI (S 5 k = nI r ∧ S 7 k = 0) ∧ ad' = ad ∧ w' = w)) 0 0 A := by
  refine Met.ofW (cc := cX1_stands) (maxL := 2) (ret := (some (.boolean))) (by decide) rfl ?_
  intro p e s m args below meth c s₁ B hml hv
  obtain ⟨rfl, hE, hW0, hI0, hA⟩ := hv
  have hx := B.exec
  have hb := B.bytes
  have hr := B.returns
  have hts := atoms_spec (ws := wsX1_stands) B.pre
  have hown : s.vm.findClass RX1 = some m.cls := findClass_of_methodNamed B.named
  have hlocks := B.notSynchronized
  have hiRX1 : ∀ w ∈ wsX10, w ∈ wsX1_stands := by decide +kernel
  have hW : kS D A s.heap ad w s.heap [] := ⟨hW0, hI0, va_S.rf, hA⟩
  have hl := lv_entry ([.ref (ad (ckey k)), .ref (ad (24 + r))]) (n := 2) (Nat.le_of_ble_eq_true rfl)
  rw [lg_entry_eq]
  generalize (lg_sl ([.ref (ad (ckey k)), .ref (ad (24 + r))]) ++ List.replicate (2 - (lg_sl ([.ref (ad (ckey k)), .ref (ad (24 + r))])).length) Slot.unset).toArray = ls at hl ⊢
  have hl : lv_has ls 2 [(0, .ref (ad (ckey k))), (1, .ref (ad (24 + r)))] := hl
  have h60 := hN.2.2.2.2.2.1
  obtain ⟨t, ht, h4⟩ := hN.by hk
  obtain ⟨r0, hr0, h5⟩ := hN.ro hk
  have hcc := hC.cc hk h4 (by omega) h5 hr0
  have hiff : some (ad (24 + r0)) = some (ad (24 + r)) ↔ S 5 k = nI r := by
    rw [hW.inj (hC.r hr0) (hC.r hr9), h5]
    constructor
    · intro q
      rw [show r0 = r by omega]
    · intro q
      have := (nI_eq (by omega) (by omega)).mp q
      omega
  refine lv_aload_n hx hb dX1_stands_0 rfl (lv_at hl 0 rfl) ?_
  refine kk_get hx hb hts hown hE hW hcc rfl hiRX1 1 (by decide) (hts (.fieldLink RX1 17 "UndoCellar$Change" "row" "LUndoCellar$Row;") (by decide +kernel)) (fun _ h9 => h9) rfl dX1_stands_1 ?_
  refine lv_aload_n hx hb dX1_stands_4 rfl (lv_at hl 1 rfl) ?_
  refine lv_acmp_ne (rx := some (ad (24 + r0))) (ry := some (ad (24 + r))) (tgt := 19) hx hb dX1_stands_5 (by decide) (fun c1 => ?_) (fun c1 => ?_)
  · refine lv_iconst (v := 0) hx hb dX1_stands_19 (by decide) ?_
    exact ke_z hx hb hr hlocks (Nat.le_of_ble_eq_true rfl) (Nat.le_of_ble_eq_true rfl) dX1_stands_20 (by first | exact Or.inl rfl | exact Or.inr rfl | assumption) hW (⟨(bI_0 (fun q => c1 (hiff.mpr q.1))).symm, rfl, rfl⟩)
  · refine lv_aload_n hx hb dX1_stands_8 rfl (lv_at hl 0 rfl) ?_
    refine kk_get hx hb hts hown hE hW hcc rfl hiRX1 3 (by decide) (hts (.fieldLink RX1 7 "UndoCellar$Change" "isVoid" "Z") (by decide +kernel)) (fun _ h9 => h9) rfl dX1_stands_9 ?_
    refine lv_if_ne (tgt := 19) hx hb dX1_stands_12 (by decide) (fun c2 => ?_) (fun c2 => ?_)
    · refine lv_iconst (v := 0) hx hb dX1_stands_19 (by decide) ?_
      exact ke_z hx hb hr hlocks (Nat.le_of_ble_eq_true rfl) (Nat.le_of_ble_eq_true rfl) dX1_stands_20 (by first | exact Or.inl rfl | exact Or.inr rfl | assumption) hW (⟨(bI_0 (fun q => c2 q.2)).symm, rfl, rfl⟩)
    · refine lv_iconst (v := 1) hx hb dX1_stands_15 (by decide) ?_
      refine lv_goto (tgt := 20) hx hb dX1_stands_16 (by decide) ?_
      exact ke_z hx hb hr hlocks (Nat.le_of_ble_eq_true rfl) (Nat.le_of_ble_eq_true rfl) dX1_stands_20 (by first | exact Or.inl rfl | exact Or.inr rfl | assumption) hW (⟨(bI_1 ⟨hiff.mp c1, c2⟩).symm, rfl, rfl⟩)

set_option maxHeartbeats 4000000 in
set_option maxRecDepth 100000 in
/-- k_X1_isSeen_n -/
theorem k_X1_isSeen_n (l : Launch) (D : va_G) (A : Nat → Prop) (ad : Nat → Nat) (w : kWd) (S : St) (nT nC nD nM nZ : Nat) (hC : CW D S ad w nT nC) (hN : SN S nT nC nD nM nZ) (k : Nat) (hk : k < nC) (mm : Int32)  : Met l yX1_isSeen wsX1_isSeen ({ frames := 1, cells := 0, slots := 0, locals := 21 }) (kPc D A [.ref (ad (ckey k)), .int mm, .null] ad w) (kQi D A (fun v ad' w' => v = bI (seenP S mm (-1) k) ∧ ad' = ad ∧ w' = w)) 0 0 A := by
  refine Met.ofW (cc := cX1_isSeen) (maxL := 3) (ret := (some (.boolean))) (by decide) rfl ?_
  intro p e s m args below meth c s₁ B hml hv
  obtain ⟨rfl, hE, hW0, hI0, hA⟩ := hv
  have hx := B.exec
  have hb := B.bytes
  have hr := B.returns
  have hts := atoms_spec (ws := wsX1_isSeen) B.pre
  have hown : s.vm.findClass RX1 = some m.cls := findClass_of_methodNamed B.named
  have hlocks := B.notSynchronized
  have hiRX1 : ∀ w ∈ wsX10, w ∈ wsX1_isSeen := by decide +kernel
  have hW : kS D A s.heap ad w s.heap [] := ⟨hW0, hI0, va_S.rf, hA⟩
  have hl := lv_entry ([.ref (ad (ckey k)), .int mm, .null]) (n := 3) (Nat.le_of_ble_eq_true rfl)
  rw [lg_entry_eq]
  generalize (lg_sl ([.ref (ad (ckey k)), .int mm, .null]) ++ List.replicate (3 - (lg_sl ([.ref (ad (ckey k)), .int mm, .null])).length) Slot.unset).toArray = ls at hl ⊢
  have hl : lv_has ls 3 [(0, .ref (ad (ckey k))), (1, .int mm), (2, .null)] := hl
  have h60 := hN.2.2.2.2.2.1
  obtain ⟨t, ht, h4⟩ := hN.by hk
  obtain ⟨r0, hr0, h5⟩ := hN.ro hk
  have hcc := hC.cc hk h4 (by omega) h5 hr0
  have hnv : nv (S 4 k) = t := by rw [h4]; exact nv_nI (by omega)
  have hiff : some (ad (tkey t)) = none ↔ S 4 k = -1 := by
    rw [h4]
    exact ⟨fun q => (by cases q), fun q => absurd q (nI_nm1 (t := t) (by omega))⟩
  refine lv_aload_n hx hb dX1_isSeen_0 rfl (lv_at hl 0 rfl) ?_
  refine kk_get hx hb hts hown hE hW hcc rfl hiRX1 0 (by decide) (hts (.fieldLink RX1 13 "UndoCellar$Change" "transaction" "LUndoCellar$Transaction;") (by decide +kernel)) (fun _ h9 => h9) rfl dX1_isSeen_1 ?_
  refine lv_aload_nN hx hb dX1_isSeen_4 rfl (lv_at hl 2 rfl) ?_
  refine lv_acmp_eq (rx := some (ad (tkey t))) (ry := none) (tgt := 19) hx hb dX1_isSeen_5 (by decide) (fun c1 => ?_) (fun c1 => ?_)
  · refine lv_iconst (v := 1) hx hb dX1_isSeen_19 (by decide) ?_
    refine lv_goto (tgt := 24) hx hb dX1_isSeen_20 (by decide) ?_
    exact ke_z hx hb hr hlocks (Nat.le_of_ble_eq_true rfl) (Nat.le_of_ble_eq_true rfl) dX1_isSeen_24 (by first | exact Or.inl rfl | exact Or.inr rfl | assumption) hW (⟨(bI_1 (Or.inl (hiff.mp c1))).symm, rfl, rfl⟩)
  · refine lv_aload_n hx hb dX1_isSeen_8 rfl (lv_at hl 0 rfl) ?_
    refine kk_get hx hb hts hown hE hW hcc rfl hiRX1 0 (by decide) (hts (.fieldLink RX1 13 "UndoCellar$Change" "transaction" "LUndoCellar$Transaction;") (by decide +kernel)) (fun _ h9 => h9) rfl dX1_isSeen_9 ?_
    refine lv_iload_n hx hb dX1_isSeen_12 rfl (lv_at hl 1 rfl) ?_
    refine kk_i (va_runVN (As := [.int mm]) (rest := []) ⟨hx, hb, hml, hown, hts⟩ (k_X4_isCommittedBy l D A ad w S nT nC nD nM nZ hC hN t ht mm) ⟨va_cnB 1 hts gX1_isSeen_X4_isCommittedBy_n25 rfl rfl rfl (hE.N 31 rfl) (hts (.initialized RX4) (by decide +kernel)) (by decide +kernel) ⟨Nat.le_of_ble_eq_true rfl, Nat.le_of_ble_eq_true rfl⟩, hts (.instanceMethod yX4_isCommittedBy) (by decide +kernel), hts (.selects RX4 yX4_isCommittedBy yX4_isCommittedBy) (by decide +kernel)⟩ (kV hE hW (hC.t (by assumption)) rfl _) rfl rfl hl.1 rfl (lv_room (Nat.le_of_ble_eq_true rfl)) dX1_isSeen_13 ⟨Nat.le_of_ble_eq_true rfl, Nat.le_of_ble_eq_true rfl⟩) hW (fun r5 ad2 w3 H6 locs hp4 hW => ?_)
    obtain ⟨e7, e8, e9⟩ := hp4
    rw [e8, e9] at hW
    subst e7
    refine lv_if_eq (tgt := 23) hx hb dX1_isSeen_16 (by decide) (fun c10 => ?_) (fun c10 => ?_)
    · refine lv_iconst (v := 0) hx hb dX1_isSeen_23 (by decide) ?_
      exact ke_z hx hb hr hlocks (Nat.le_of_ble_eq_true rfl) (Nat.le_of_ble_eq_true rfl) dX1_isSeen_24 (by first | exact Or.inl rfl | exact Or.inr rfl | assumption) hW (⟨(bI_0 (fun q => q.elim (fun z => c1 (hiff.mpr z)) (fun z => (bI_f c10) (by rw [hnv] at z; exact z)))).symm, rfl, rfl⟩)
    · refine lv_iconst (v := 1) hx hb dX1_isSeen_19 (by decide) ?_
      refine lv_goto (tgt := 24) hx hb dX1_isSeen_20 (by decide) ?_
      exact ke_z hx hb hr hlocks (Nat.le_of_ble_eq_true rfl) (Nat.le_of_ble_eq_true rfl) dX1_isSeen_24 (by first | exact Or.inl rfl | exact Or.inr rfl | assumption) hW (⟨(bI_1 (Or.inr (by rw [hnv]; exact bI_t c10))).symm, rfl, rfl⟩)

set_option maxHeartbeats 4000000 in
set_option maxRecDepth 100000 in
/-- k_X1_isSeen_t -/
theorem k_X1_isSeen_t (l : Launch) (D : va_G) (A : Nat → Prop) (ad : Nat → Nat) (w : kWd) (S : St) (nT nC nD nM nZ : Nat) (hC : CW D S ad w nT nC) (hN : SN S nT nC nD nM nZ) (k : Nat) (hk : k < nC) (mm : Int32) (u : Nat) (hu : u < nT)  : Met l yX1_isSeen wsX1_isSeen ({ frames := 1, cells := 0, slots := 0, locals := 21 }) (kPc D A [.ref (ad (ckey k)), .int mm, .ref (ad (tkey u))] ad w) (kQi D A (fun v ad' w' => v = bI (seenP S mm (nI u) k) ∧ ad' = ad ∧ w' = w)) 0 0 A := by
  refine Met.ofW (cc := cX1_isSeen) (maxL := 3) (ret := (some (.boolean))) (by decide) rfl ?_
  intro p e s m args below meth c s₁ B hml hv
  obtain ⟨rfl, hE, hW0, hI0, hA⟩ := hv
  have hx := B.exec
  have hb := B.bytes
  have hr := B.returns
  have hts := atoms_spec (ws := wsX1_isSeen) B.pre
  have hown : s.vm.findClass RX1 = some m.cls := findClass_of_methodNamed B.named
  have hlocks := B.notSynchronized
  have hiRX1 : ∀ w ∈ wsX10, w ∈ wsX1_isSeen := by decide +kernel
  have hW : kS D A s.heap ad w s.heap [] := ⟨hW0, hI0, va_S.rf, hA⟩
  have hl := lv_entry ([.ref (ad (ckey k)), .int mm, .ref (ad (tkey u))]) (n := 3) (Nat.le_of_ble_eq_true rfl)
  rw [lg_entry_eq]
  generalize (lg_sl ([.ref (ad (ckey k)), .int mm, .ref (ad (tkey u))]) ++ List.replicate (3 - (lg_sl ([.ref (ad (ckey k)), .int mm, .ref (ad (tkey u))])).length) Slot.unset).toArray = ls at hl ⊢
  have hl : lv_has ls 3 [(0, .ref (ad (ckey k))), (1, .int mm), (2, .ref (ad (tkey u)))] := hl
  have h60 := hN.2.2.2.2.2.1
  obtain ⟨t, ht, h4⟩ := hN.by hk
  obtain ⟨r0, hr0, h5⟩ := hN.ro hk
  have hcc := hC.cc hk h4 (by omega) h5 hr0
  have hnv : nv (S 4 k) = t := by rw [h4]; exact nv_nI (by omega)
  have hiff : some (ad (tkey t)) = some (ad (tkey u)) ↔ S 4 k = nI u := by
    rw [hW.inj (hC.t ht) (hC.t hu), h4]
    constructor
    · intro q
      have : 100 + 2 * t = 100 + 2 * u := q
      rw [show t = u by omega]
    · intro q
      have := (nI_eq (by omega) (by omega)).mp q
      rw [this]
  refine lv_aload_n hx hb dX1_isSeen_0 rfl (lv_at hl 0 rfl) ?_
  refine kk_get hx hb hts hown hE hW hcc rfl hiRX1 0 (by decide) (hts (.fieldLink RX1 13 "UndoCellar$Change" "transaction" "LUndoCellar$Transaction;") (by decide +kernel)) (fun _ h9 => h9) rfl dX1_isSeen_1 ?_
  refine lv_aload_n hx hb dX1_isSeen_4 rfl (lv_at hl 2 rfl) ?_
  refine lv_acmp_eq (rx := some (ad (tkey t))) (ry := (some (ad (tkey u)))) (tgt := 19) hx hb dX1_isSeen_5 (by decide) (fun c1 => ?_) (fun c1 => ?_)
  · refine lv_iconst (v := 1) hx hb dX1_isSeen_19 (by decide) ?_
    refine lv_goto (tgt := 24) hx hb dX1_isSeen_20 (by decide) ?_
    exact ke_z hx hb hr hlocks (Nat.le_of_ble_eq_true rfl) (Nat.le_of_ble_eq_true rfl) dX1_isSeen_24 (by first | exact Or.inl rfl | exact Or.inr rfl | assumption) hW (⟨(bI_1 (Or.inl (hiff.mp c1))).symm, rfl, rfl⟩)
  · refine lv_aload_n hx hb dX1_isSeen_8 rfl (lv_at hl 0 rfl) ?_
    refine kk_get hx hb hts hown hE hW hcc rfl hiRX1 0 (by decide) (hts (.fieldLink RX1 13 "UndoCellar$Change" "transaction" "LUndoCellar$Transaction;") (by decide +kernel)) (fun _ h9 => h9) rfl dX1_isSeen_9 ?_
    refine lv_iload_n hx hb dX1_isSeen_12 rfl (lv_at hl 1 rfl) ?_
    refine kk_i (va_runVN (As := [.int mm]) (rest := []) ⟨hx, hb, hml, hown, hts⟩ (k_X4_isCommittedBy l D A ad w S nT nC nD nM nZ hC hN t ht mm) ⟨va_cnB 1 hts gX1_isSeen_X4_isCommittedBy_n25 rfl rfl rfl (hE.N 31 rfl) (hts (.initialized RX4) (by decide +kernel)) (by decide +kernel) ⟨Nat.le_of_ble_eq_true rfl, Nat.le_of_ble_eq_true rfl⟩, hts (.instanceMethod yX4_isCommittedBy) (by decide +kernel), hts (.selects RX4 yX4_isCommittedBy yX4_isCommittedBy) (by decide +kernel)⟩ (kV hE hW (hC.t (by assumption)) rfl _) rfl rfl hl.1 rfl (lv_room (Nat.le_of_ble_eq_true rfl)) dX1_isSeen_13 ⟨Nat.le_of_ble_eq_true rfl, Nat.le_of_ble_eq_true rfl⟩) hW (fun r5 ad2 w3 H6 locs hp4 hW => ?_)
    obtain ⟨e7, e8, e9⟩ := hp4
    rw [e8, e9] at hW
    subst e7
    refine lv_if_eq (tgt := 23) hx hb dX1_isSeen_16 (by decide) (fun c10 => ?_) (fun c10 => ?_)
    · refine lv_iconst (v := 0) hx hb dX1_isSeen_23 (by decide) ?_
      exact ke_z hx hb hr hlocks (Nat.le_of_ble_eq_true rfl) (Nat.le_of_ble_eq_true rfl) dX1_isSeen_24 (by first | exact Or.inl rfl | exact Or.inr rfl | assumption) hW (⟨(bI_0 (fun q => q.elim (fun z => c1 (hiff.mpr z)) (fun z => (bI_f c10) (by rw [hnv] at z; exact z)))).symm, rfl, rfl⟩)
    · refine lv_iconst (v := 1) hx hb dX1_isSeen_19 (by decide) ?_
      refine lv_goto (tgt := 24) hx hb dX1_isSeen_20 (by decide) ?_
      exact ke_z hx hb hr hlocks (Nat.le_of_ble_eq_true rfl) (Nat.le_of_ble_eq_true rfl) dX1_isSeen_24 (by first | exact Or.inl rfl | exact Or.inr rfl | assumption) hW (⟨(bI_1 (Or.inr (by rw [hnv]; exact bI_t c10))).symm, rfl, rfl⟩)

set_option maxHeartbeats 4000000 in
set_option maxRecDepth 100000 in
/-- k_X5_recordsThere -/
theorem k_X5_recordsThere (l : Launch) (D : va_G) (A : Nat → Prop) (ad : Nat → Nat) (w : kWd) (S : St) (nT nC nD nM nZ : Nat) (hC : CW D S ad w nT nC) (hN : SN S nT nC nD nM nZ)  : Met l yX5_recordsThere wsX5_recordsThere ({ frames := 1, cells := 0, slots := 0, locals := 20 }) (kPc D A [.ref (ad 0)] ad w) (kQi D A (fun v ad' w' => v = S 13 0 - S 14 0 ∧ ad' = ad ∧ w' = w)) 0 0 A := by
  refine Met.ofW (cc := cX5_recordsThere) (maxL := 1) (ret := (some (.int))) (by decide) rfl ?_
  intro p e s m args below meth c s₁ B hml hv
  obtain ⟨rfl, hE, hW0, hI0, hA⟩ := hv
  have hx := B.exec
  have hb := B.bytes
  have hr := B.returns
  have hts := atoms_spec (ws := wsX5_recordsThere) B.pre
  have hown : s.vm.findClass RX5 = some m.cls := findClass_of_methodNamed B.named
  have hlocks := B.notSynchronized
  have hiRX5 : ∀ w ∈ wsX50, w ∈ wsX5_recordsThere := by decide +kernel
  have hW : kS D A s.heap ad w s.heap [] := ⟨hW0, hI0, va_S.rf, hA⟩
  have hl := lv_entry ([.ref (ad 0)]) (n := 1) (Nat.le_of_ble_eq_true rfl)
  rw [lg_entry_eq]
  generalize (lg_sl ([.ref (ad 0)]) ++ List.replicate (1 - (lg_sl ([.ref (ad 0)])).length) Slot.unset).toArray = ls at hl ⊢
  have hl : lv_has ls 1 [(0, .ref (ad 0))] := hl
  refine lv_aload_n hx hb dX5_recordsThere_0 rfl (lv_at hl 0 rfl) ?_
  refine kk_get hx hb hts hown hE hW hC.u rfl hiRX5 3 (by decide) (hts (.fieldLink RX5 28 "UndoCellar" "changes" "Ljava/util/ArrayList;") (by decide +kernel)) (fun _ h9 => h9) rfl dX5_recordsThere_1 ?_
  obtain ⟨_, _, _, ehL1, hL1, -⟩ := id hC.lc
  refine kk_i (va_runV (As := []) (rest := []) ⟨hx, hb, hml, hown, hts⟩ (c_size l D A ad w 4 6 nC ckey hC.lc) (cwV 0 hts gX5_recordsThere_Jx4a65c_size_8abf5 rfl rfl rfl (by decide +kernel) ⟨Nat.le_of_ble_eq_true rfl, Nat.le_of_ble_eq_true rfl⟩) (kV hE hW hL1 rfl _) rfl rfl hl.1 rfl (lv_room (Nat.le_of_ble_eq_true rfl)) dX5_recordsThere_4 ⟨Nat.le_of_ble_eq_true rfl, Nat.le_of_ble_eq_true rfl⟩) hW (fun r5 ad2 w3 H6 locs hp4 hW => ?_)
  obtain ⟨e7, e8, e9⟩ := hp4
  rw [e8, e9] at hW
  subst e7
  refine lv_aload_n hx hb dX5_recordsThere_7 rfl (lv_at hl 0 rfl) ?_
  refine kk_get hx hb hts hown hE hW hC.u rfl hiRX5 7 (by decide) (hts (.fieldLink RX5 41 "UndoCellar" "droppedSoFar" "I") (by decide +kernel)) (fun _ h9 => h9) rfl dX5_recordsThere_8 ?_
  refine lv_isub hx hb dX5_recordsThere_11 ?_
  exact ke_i hx hb hr hlocks (Nat.le_of_ble_eq_true rfl) (Nat.le_of_ble_eq_true rfl) dX5_recordsThere_12 hW (⟨by rw [hN.2.1], rfl, rfl⟩)

set_option maxHeartbeats 4000000 in
set_option maxRecDepth 100000 in
/-- k_X5_moment -/
theorem k_X5_moment (l : Launch) (D : va_G) (A : Nat → Prop) (ad : Nat → Nat) (w : kWd) (S : St) (nT nC nD nM nZ : Nat) (hC : CW D S ad w nT nC) (hN : SN S nT nC nD nM nZ)  : Met l yX5_moment wsX5_moment ({ frames := 0, cells := 0, slots := 0, locals := 0 }) (kPc D A [.ref (ad 0)] ad w) (kQi D A (fun v ad' w' => v = S 11 0 ∧ ad' = ad ∧ w' = w)) 0 0 A := by
  refine Met.ofW (cc := cX5_moment) (maxL := 1) (ret := (some (.int))) (by decide) rfl ?_
  intro p e s m args below meth c s₁ B hml hv
  obtain ⟨rfl, hE, hW0, hI0, hA⟩ := hv
  have hx := B.exec
  have hb := B.bytes
  have hr := B.returns
  have hts := atoms_spec (ws := wsX5_moment) B.pre
  have hown : s.vm.findClass RX5 = some m.cls := findClass_of_methodNamed B.named
  have hlocks := B.notSynchronized
  have hiRX5 : ∀ w ∈ wsX50, w ∈ wsX5_moment := by decide +kernel
  have hW : kS D A s.heap ad w s.heap [] := ⟨hW0, hI0, va_S.rf, hA⟩
  have hl := lv_entry ([.ref (ad 0)]) (n := 1) (Nat.le_of_ble_eq_true rfl)
  rw [lg_entry_eq]
  generalize (lg_sl ([.ref (ad 0)]) ++ List.replicate (1 - (lg_sl ([.ref (ad 0)])).length) Slot.unset).toArray = ls at hl ⊢
  have hl : lv_has ls 1 [(0, .ref (ad 0))] := hl
  refine lv_aload_n hx hb dX5_moment_0 rfl (lv_at hl 0 rfl) ?_
  refine kk_get hx hb hts hown hE hW hC.u rfl hiRX5 5 (by decide) (hts (.fieldLink RX5 35 "UndoCellar" "momentOfNow" "I") (by decide +kernel)) (fun _ h9 => h9) rfl dX5_moment_1 ?_
  exact ke_i hx hb hr hlocks (Nat.le_of_ble_eq_true rfl) (Nat.le_of_ble_eq_true rfl) dX5_moment_4 hW (⟨rfl, rfl, rfl⟩)

set_option maxHeartbeats 4000000 in
set_option maxRecDepth 100000 in
/-- k_X5_marked -/
theorem k_X5_marked (l : Launch) (D : va_G) (A : Nat → Prop) (ad : Nat → Nat) (w : kWd) (S : St) (nT nC nD nM nZ : Nat) (hC : CW D S ad w nT nC) (hN : SN S nT nC nD nM nZ)  : Met l yX5_marked wsX5_marked ({ frames := 0, cells := 0, slots := 0, locals := 0 }) (kPc D A [.ref (ad 0)] ad w) (kQi D A (fun v ad' w' => v = S 15 0 ∧ ad' = ad ∧ w' = w)) 0 0 A := by
  refine Met.ofW (cc := cX5_marked) (maxL := 1) (ret := (some (.int))) (by decide) rfl ?_
  intro p e s m args below meth c s₁ B hml hv
  obtain ⟨rfl, hE, hW0, hI0, hA⟩ := hv
  have hx := B.exec
  have hb := B.bytes
  have hr := B.returns
  have hts := atoms_spec (ws := wsX5_marked) B.pre
  have hown : s.vm.findClass RX5 = some m.cls := findClass_of_methodNamed B.named
  have hlocks := B.notSynchronized
  have hiRX5 : ∀ w ∈ wsX50, w ∈ wsX5_marked := by decide +kernel
  have hW : kS D A s.heap ad w s.heap [] := ⟨hW0, hI0, va_S.rf, hA⟩
  have hl := lv_entry ([.ref (ad 0)]) (n := 1) (Nat.le_of_ble_eq_true rfl)
  rw [lg_entry_eq]
  generalize (lg_sl ([.ref (ad 0)]) ++ List.replicate (1 - (lg_sl ([.ref (ad 0)])).length) Slot.unset).toArray = ls at hl ⊢
  have hl : lv_has ls 1 [(0, .ref (ad 0))] := hl
  refine lv_aload_n hx hb dX5_marked_0 rfl (lv_at hl 0 rfl) ?_
  refine kk_get hx hb hts hown hE hW hC.u rfl hiRX5 6 (by decide) (hts (.fieldLink RX5 38 "UndoCellar" "markedSoFar" "I") (by decide +kernel)) (fun _ h9 => h9) rfl dX5_marked_1 ?_
  exact ke_i hx hb hr hlocks (Nat.le_of_ble_eq_true rfl) (Nat.le_of_ble_eq_true rfl) dX5_marked_4 hW (⟨rfl, rfl, rfl⟩)

set_option maxHeartbeats 4000000 in
set_option maxRecDepth 100000 in
/-- k_X5_dropped -/
theorem k_X5_dropped (l : Launch) (D : va_G) (A : Nat → Prop) (ad : Nat → Nat) (w : kWd) (S : St) (nT nC nD nM nZ : Nat) (hC : CW D S ad w nT nC) (hN : SN S nT nC nD nM nZ)  : Met l yX5_dropped wsX5_dropped ({ frames := 0, cells := 0, slots := 0, locals := 0 }) (kPc D A [.ref (ad 0)] ad w) (kQi D A (fun v ad' w' => v = S 14 0 ∧ ad' = ad ∧ w' = w)) 0 0 A := by
  refine Met.ofW (cc := cX5_dropped) (maxL := 1) (ret := (some (.int))) (by decide) rfl ?_
  intro p e s m args below meth c s₁ B hml hv
  obtain ⟨rfl, hE, hW0, hI0, hA⟩ := hv
  have hx := B.exec
  have hb := B.bytes
  have hr := B.returns
  have hts := atoms_spec (ws := wsX5_dropped) B.pre
  have hown : s.vm.findClass RX5 = some m.cls := findClass_of_methodNamed B.named
  have hlocks := B.notSynchronized
  have hiRX5 : ∀ w ∈ wsX50, w ∈ wsX5_dropped := by decide +kernel
  have hW : kS D A s.heap ad w s.heap [] := ⟨hW0, hI0, va_S.rf, hA⟩
  have hl := lv_entry ([.ref (ad 0)]) (n := 1) (Nat.le_of_ble_eq_true rfl)
  rw [lg_entry_eq]
  generalize (lg_sl ([.ref (ad 0)]) ++ List.replicate (1 - (lg_sl ([.ref (ad 0)])).length) Slot.unset).toArray = ls at hl ⊢
  have hl : lv_has ls 1 [(0, .ref (ad 0))] := hl
  refine lv_aload_n hx hb dX5_dropped_0 rfl (lv_at hl 0 rfl) ?_
  refine kk_get hx hb hts hown hE hW hC.u rfl hiRX5 7 (by decide) (hts (.fieldLink RX5 41 "UndoCellar" "droppedSoFar" "I") (by decide +kernel)) (fun _ h9 => h9) rfl dX5_dropped_1 ?_
  exact ke_i hx hb hr hlocks (Nat.le_of_ble_eq_true rfl) (Nat.le_of_ble_eq_true rfl) dX5_dropped_4 hW (⟨rfl, rfl, rfl⟩)

set_option maxHeartbeats 4000000 in
set_option maxRecDepth 100000 in
/-- k_X5_transactions -/
theorem k_X5_transactions (l : Launch) (D : va_G) (A : Nat → Prop) (ad : Nat → Nat) (w : kWd) (S : St) (nT nC nD nM nZ : Nat) (hC : CW D S ad w nT nC) (hN : SN S nT nC nD nM nZ)  : Met l yX5_transactions wsX5_transactions ({ frames := 1, cells := 0, slots := 0, locals := 20 }) (kPc D A [.ref (ad 0)] ad w) (kQi D A (fun v ad' w' => v = S 12 0 ∧ ad' = ad ∧ w' = w)) 0 0 A := by
  refine Met.ofW (cc := cX5_transactions) (maxL := 1) (ret := (some (.int))) (by decide) rfl ?_
  intro p e s m args below meth c s₁ B hml hv
  obtain ⟨rfl, hE, hW0, hI0, hA⟩ := hv
  have hx := B.exec
  have hb := B.bytes
  have hr := B.returns
  have hts := atoms_spec (ws := wsX5_transactions) B.pre
  have hown : s.vm.findClass RX5 = some m.cls := findClass_of_methodNamed B.named
  have hlocks := B.notSynchronized
  have hiRX5 : ∀ w ∈ wsX50, w ∈ wsX5_transactions := by decide +kernel
  have hW : kS D A s.heap ad w s.heap [] := ⟨hW0, hI0, va_S.rf, hA⟩
  have hl := lv_entry ([.ref (ad 0)]) (n := 1) (Nat.le_of_ble_eq_true rfl)
  rw [lg_entry_eq]
  generalize (lg_sl ([.ref (ad 0)]) ++ List.replicate (1 - (lg_sl ([.ref (ad 0)])).length) Slot.unset).toArray = ls at hl ⊢
  have hl : lv_has ls 1 [(0, .ref (ad 0))] := hl
  refine lv_aload_n hx hb dX5_transactions_0 rfl (lv_at hl 0 rfl) ?_
  refine kk_get hx hb hts hown hE hW hC.u rfl hiRX5 2 (by decide) (hts (.fieldLink RX5 24 "UndoCellar" "begun" "Ljava/util/ArrayList;") (by decide +kernel)) (fun _ h9 => h9) rfl dX5_transactions_1 ?_
  obtain ⟨_, _, _, ehL1, hL1, -⟩ := id hC.lt
  refine kk_i (va_runV (As := []) (rest := []) ⟨hx, hb, hml, hown, hts⟩ (c_size l D A ad w 3 5 nT tkey hC.lt) (cwV 0 hts gX5_transactions_Jx4a65c_size_8abf5 rfl rfl rfl (by decide +kernel) ⟨Nat.le_of_ble_eq_true rfl, Nat.le_of_ble_eq_true rfl⟩) (kV hE hW hL1 rfl _) rfl rfl hl.1 rfl (lv_room (Nat.le_of_ble_eq_true rfl)) dX5_transactions_4 ⟨Nat.le_of_ble_eq_true rfl, Nat.le_of_ble_eq_true rfl⟩) hW (fun r5 ad2 w3 H6 locs hp4 hW => ?_)
  obtain ⟨e7, e8, e9⟩ := hp4
  rw [e8, e9] at hW
  subst e7
  exact ke_i hx hb hr hlocks (Nat.le_of_ble_eq_true rfl) (Nat.le_of_ble_eq_true rfl) dX5_transactions_7 hW (⟨hN.1.symm, rfl, rfl⟩)

set_option maxHeartbeats 4000000 in
set_option maxRecDepth 100000 in
/-- k_X5_records -/
theorem k_X5_records (l : Launch) (D : va_G) (A : Nat → Prop) (ad : Nat → Nat) (w : kWd) (S : St) (nT nC nD nM nZ : Nat) (hC : CW D S ad w nT nC) (hN : SN S nT nC nD nM nZ)  : Met l yX5_records wsX5_records ({ frames := 2, cells := 0, slots := 0, locals := 40 }) (kPc D A [.ref (ad 0)] ad w) (kQi D A (fun v ad' w' => v = S 13 0 - S 14 0 ∧ ad' = ad ∧ w' = w)) 0 0 A := by
  refine Met.ofW (cc := cX5_records) (maxL := 1) (ret := (some (.int))) (by decide) rfl ?_
  intro p e s m args below meth c s₁ B hml hv
  obtain ⟨rfl, hE, hW0, hI0, hA⟩ := hv
  have hx := B.exec
  have hb := B.bytes
  have hr := B.returns
  have hts := atoms_spec (ws := wsX5_records) B.pre
  have hown : s.vm.findClass RX5 = some m.cls := findClass_of_methodNamed B.named
  have hlocks := B.notSynchronized
  have hW : kS D A s.heap ad w s.heap [] := ⟨hW0, hI0, va_S.rf, hA⟩
  have hl := lv_entry ([.ref (ad 0)]) (n := 1) (Nat.le_of_ble_eq_true rfl)
  rw [lg_entry_eq]
  generalize (lg_sl ([.ref (ad 0)]) ++ List.replicate (1 - (lg_sl ([.ref (ad 0)])).length) Slot.unset).toArray = ls at hl ⊢
  have hl : lv_has ls 1 [(0, .ref (ad 0))] := hl
  refine lv_aload_n hx hb dX5_records_0 rfl (lv_at hl 0 rfl) ?_
  refine kk_i (va_runV (As := []) (rest := []) ⟨hx, hb, hml, hown, hts⟩ (k_X5_recordsThere l D A ad w S nT nC nD nM nZ hC hN) (cwV 0 hts gX5_records_X5_recordsThere rfl rfl rfl (by decide +kernel) ⟨Nat.le_of_ble_eq_true rfl, Nat.le_of_ble_eq_true rfl⟩) (kV hE hW hC.u rfl _) rfl rfl hl.1 rfl (lv_room (Nat.le_of_ble_eq_true rfl)) dX5_records_1 ⟨Nat.le_of_ble_eq_true rfl, Nat.le_of_ble_eq_true rfl⟩) hW (fun r4 ad1 w2 H5 locs hp3 hW => ?_)
  obtain ⟨e6, e7, e8⟩ := hp3
  rw [e7, e8] at hW
  subst e6
  exact ke_i hx hb hr hlocks (Nat.le_of_ble_eq_true rfl) (Nat.le_of_ble_eq_true rfl) dX5_records_4 hW (⟨rfl, rfl, rfl⟩)

set_option maxHeartbeats 4000000 in
set_option maxRecDepth 100000 in
/-- k_X5_isSpaceFull -/
theorem k_X5_isSpaceFull (l : Launch) (D : va_G) (A : Nat → Prop) (ad : Nat → Nat) (w : kWd) (S : St) (nT nC nD nM nZ : Nat) (hC : CW D S ad w nT nC) (hN : SN S nT nC nD nM nZ)  : Met l yX5_isSpaceFull wsX5_isSpaceFull ({ frames := 2, cells := 0, slots := 0, locals := 40 }) (kPc D A [.ref (ad 0)] ad w) (kQi D A (fun v ad' w' => v = bI (nD < nC ∧ S 10 0 ≤ S 13 0 - S 14 0) ∧ ad' = ad ∧ w' = w)) 0 0 A := by
  refine Met.ofW (cc := cX5_isSpaceFull) (maxL := 1) (ret := (some (.boolean))) (by decide) rfl ?_
  intro p e s m args below meth c s₁ B hml hv
  obtain ⟨rfl, hE, hW0, hI0, hA⟩ := hv
  have hx := B.exec
  have hb := B.bytes
  have hr := B.returns
  have hts := atoms_spec (ws := wsX5_isSpaceFull) B.pre
  have hown : s.vm.findClass RX5 = some m.cls := findClass_of_methodNamed B.named
  have hlocks := B.notSynchronized
  have hiRX5 : ∀ w ∈ wsX50, w ∈ wsX5_isSpaceFull := by decide +kernel
  have hW : kS D A s.heap ad w s.heap [] := ⟨hW0, hI0, va_S.rf, hA⟩
  have hl := lv_entry ([.ref (ad 0)]) (n := 1) (Nat.le_of_ble_eq_true rfl)
  rw [lg_entry_eq]
  generalize (lg_sl ([.ref (ad 0)]) ++ List.replicate (1 - (lg_sl ([.ref (ad 0)])).length) Slot.unset).toArray = ls at hl ⊢
  have hl : lv_has ls 1 [(0, .ref (ad 0))] := hl
  have h512 := hN.2.2.2.2.2.2.1
  have hd := hN.2.2.2.2.2.2.2.1
  refine lv_aload_n hx hb dX5_isSpaceFull_0 rfl (lv_at hl 0 rfl) ?_
  refine kk_get hx hb hts hown hE hW hC.u rfl hiRX5 7 (by decide) (hts (.fieldLink RX5 41 "UndoCellar" "droppedSoFar" "I") (by decide +kernel)) (fun _ h9 => h9) rfl dX5_isSpaceFull_1 ?_
  refine lv_aload_n hx hb dX5_isSpaceFull_4 rfl (lv_at hl 0 rfl) ?_
  refine kk_get hx hb hts hown hE hW hC.u rfl hiRX5 3 (by decide) (hts (.fieldLink RX5 28 "UndoCellar" "changes" "Ljava/util/ArrayList;") (by decide +kernel)) (fun _ h9 => h9) rfl dX5_isSpaceFull_5 ?_
  obtain ⟨_, _, _, ehL1, hL1, -⟩ := id hC.lc
  refine kk_i (va_runV (As := []) (rest := [.int (S 14 0)]) ⟨hx, hb, hml, hown, hts⟩ (c_size l D A ad w 4 6 nC ckey hC.lc) (cwV 0 hts gX5_isSpaceFull_Jx4a65c_size_8abf5 rfl rfl rfl (by decide +kernel) ⟨Nat.le_of_ble_eq_true rfl, Nat.le_of_ble_eq_true rfl⟩) (kV hE hW hL1 rfl _) rfl rfl hl.1 rfl (lv_room (Nat.le_of_ble_eq_true rfl)) dX5_isSpaceFull_8 ⟨Nat.le_of_ble_eq_true rfl, Nat.le_of_ble_eq_true rfl⟩) hW (fun r5 ad2 w3 H6 locs hp4 hW => ?_)
  obtain ⟨e7, e8, e9⟩ := hp4
  rw [e8, e9] at hW
  subst e7
  refine lv_icmp_ge (tgt := 29) hx hb dX5_isSpaceFull_11 (by decide) (fun c10 => ?_) (fun c10 => ?_)
  · refine lv_iconst (v := 0) hx hb dX5_isSpaceFull_29 (by decide) ?_
    exact ke_z hx hb hr hlocks (Nat.le_of_ble_eq_true rfl) (Nat.le_of_ble_eq_true rfl) dX5_isSpaceFull_30 (by first | exact Or.inl rfl | exact Or.inr rfl | assumption) hW (⟨(bI_0 (fun q => nI_ge q.1 (by omega) (by rw [← hN.2.2.1]; exact c10))).symm, rfl, rfl⟩)
  · have hlt : nD < nC := by
      rcases Nat.lt_or_ge nD nC with h | h
      · exact h
      · exact absurd (by rw [hN.2.2.1]; exact nI_le h (by omega)) c10
    refine lv_aload_n hx hb dX5_isSpaceFull_14 rfl (lv_at hl 0 rfl) ?_
    refine kk_i (va_runV (As := []) (rest := []) ⟨hx, hb, hml, hown, hts⟩ (k_X5_recordsThere l D A ad w S nT nC nD nM nZ hC hN) (cwV 0 hts gX5_isSpaceFull_X5_recordsThere rfl rfl rfl (by decide +kernel) ⟨Nat.le_of_ble_eq_true rfl, Nat.le_of_ble_eq_true rfl⟩) (kV hE hW hC.u rfl _) rfl rfl hl.1 rfl (lv_room (Nat.le_of_ble_eq_true rfl)) dX5_isSpaceFull_15 ⟨Nat.le_of_ble_eq_true rfl, Nat.le_of_ble_eq_true rfl⟩) hW (fun r14 ad11 w12 H15 locs hp13 hW => ?_)
    obtain ⟨e16, e17, e18⟩ := hp13
    rw [e17, e18] at hW
    subst e16
    refine lv_aload_n hx hb dX5_isSpaceFull_18 rfl (lv_at hl 0 rfl) ?_
    refine kk_get hx hb hts hown hE hW hC.u rfl hiRX5 4 (by decide) (hts (.fieldLink RX5 31 "UndoCellar" "space" "I") (by decide +kernel)) (fun _ h9 => h9) rfl dX5_isSpaceFull_19 ?_
    refine lv_icmp_lt (tgt := 29) hx hb dX5_isSpaceFull_22 (by decide) (fun c19 => ?_) (fun c19 => ?_)
    · refine lv_iconst (v := 0) hx hb dX5_isSpaceFull_29 (by decide) ?_
      exact ke_z hx hb hr hlocks (Nat.le_of_ble_eq_true rfl) (Nat.le_of_ble_eq_true rfl) dX5_isSpaceFull_30 (by first | exact Or.inl rfl | exact Or.inr rfl | assumption) hW (⟨(bI_0 (fun q => Int32.not_le.mpr c19 q.2)).symm, rfl, rfl⟩)
    · refine lv_iconst (v := 1) hx hb dX5_isSpaceFull_25 (by decide) ?_
      refine lv_goto (tgt := 30) hx hb dX5_isSpaceFull_26 (by decide) ?_
      exact ke_z hx hb hr hlocks (Nat.le_of_ble_eq_true rfl) (Nat.le_of_ble_eq_true rfl) dX5_isSpaceFull_30 (by first | exact Or.inl rfl | exact Or.inr rfl | assumption) hW (⟨(bI_1 ⟨hlt, Int32.not_lt.mp c19⟩).symm, rfl, rfl⟩)

set_option maxHeartbeats 4000000 in
set_option maxRecDepth 100000 in
/-- k_X5_transactionNumbered -/
theorem k_X5_transactionNumbered (l : Launch) (hnt : l.stackTraces = false) (D : va_G) (A : Nat → Prop) (ad : Nat → Nat) (w : kWd) (S : St) (nT nC nD nM nZ : Nat) (hC : CW D S ad w nT nC) (hN : SN S nT nC nD nM nZ) (i : Int32) : vx_Met l yX5_transactionNumbered wsX5_transactionNumbered ({ frames := 6, cells := 1, slots := 6, locals := 100 }) (kPc D A [.ref (ad 0), .int i] ad w) (kQq D A (fun v ad' w' => v = some (ad (tkey (nv i))) ∧ trP S i ∧ ad' = ad ∧ w' = w)) (kX D A (fun E => E = xIO ∧ ¬ trP S i) ad w) 1 6 A := by
  refine vx_ofW (cc := cX5_transactionNumbered) (maxL := 2) (ret := (some (.object "UndoCellar$Transaction"))) (by decide) rfl ?_
  intro p e s m args below meth c s₁ B hml hout hv
  obtain ⟨rfl, hE, hW0, hI0, hA⟩ := hv
  have hx := B.exec
  have hb := B.bytes
  have hr := B.returns
  have hts := atoms_spec (ws := wsX5_transactionNumbered) B.pre
  have hown : s.vm.findClass RX5 = some m.cls := findClass_of_methodNamed B.named
  have hlocks := B.notSynchronized
  have hiRX5 : ∀ w ∈ wsX50, w ∈ wsX5_transactionNumbered := by decide +kernel
  have hW : kS D A s.heap ad w s.heap [] := ⟨hW0, hI0, va_S.rf, hA⟩
  have hl := lv_entry ([.ref (ad 0), .int i]) (n := 2) (Nat.le_of_ble_eq_true rfl)
  rw [lg_entry_eq]
  generalize (lg_sl ([.ref (ad 0), .int i]) ++ List.replicate (2 - (lg_sl ([.ref (ad 0), .int i])).length) Slot.unset).toArray = ls at hl ⊢
  have hl : lv_has ls 2 [(0, .ref (ad 0)), (1, .int i)] := hl
  have h60 := hN.2.2.2.2.2.1
  refine lv_iload_n hx hb dX5_transactionNumbered_0 rfl (lv_at hl 1 rfl) ?_
  refine lv_if_lt (tgt := 15) hx hb dX5_transactionNumbered_1 (by decide) (fun c1 => ?_) (fun c1 => ?_)
  · exact kk_throw kf_IO hx hb hnt hown (fun w h => hts w (List.mem_cons_of_mem _ (List.mem_append_right _ h))) (hts (.classLink RX5 189 "java/lang/IndexOutOfBoundsException") (by decide +kernel)) (hts (.initialized "java/lang/IndexOutOfBoundsException") (by decide +kernel)) hE hW (hl.1.trans hml.symm) (hE.R 6 rfl) dX5_transactionNumbered_15 dX5_transactionNumbered_18 dX5_transactionNumbered_19 dX5_transactionNumbered_21 dX5_transactionNumbered_24 hout ⟨Nat.le_of_ble_eq_true rfl, Nat.le_of_ble_eq_true rfl, Nat.le_of_ble_eq_true rfl, Nat.le_of_ble_eq_true rfl⟩ hlocks (⟨rfl, fun q => q.1 c1⟩) (Nat.le_of_ble_eq_true rfl) (Nat.le_of_ble_eq_true rfl)
  · refine lv_iload_n hx hb dX5_transactionNumbered_4 rfl (lv_at hl 1 rfl) ?_
    refine lv_aload_n hx hb dX5_transactionNumbered_5 rfl (lv_at hl 0 rfl) ?_
    refine kk_get hx hb hts hown hE hW hC.u rfl hiRX5 2 (by decide) (hts (.fieldLink RX5 24 "UndoCellar" "begun" "Ljava/util/ArrayList;") (by decide +kernel)) (fun _ h9 => h9) rfl dX5_transactionNumbered_6 ?_
    obtain ⟨_, _, _, ehL2, hL2, -⟩ := id hC.lt
    refine kk_i (va_runV (As := []) (rest := [.int i]) ⟨hx, hb, hml, hown, hts⟩ (c_size l D A ad w 3 5 nT tkey hC.lt) (cwV 0 hts gX5_transactionNumbered_Jx4a65c_size_8abf5 rfl rfl rfl (by decide +kernel) ⟨Nat.le_of_ble_eq_true rfl, Nat.le_of_ble_eq_true rfl⟩) (kV hE hW hL2 rfl _) rfl rfl hl.1 rfl (lv_room (Nat.le_of_ble_eq_true rfl)) dX5_transactionNumbered_9 ⟨Nat.le_of_ble_eq_true rfl, Nat.le_of_ble_eq_true rfl⟩) hW (fun r6 ad3 w4 H7 locs hp5 hW => ?_)
    obtain ⟨e8, e9, e10⟩ := hp5
    rw [e9, e10] at hW
    subst e8
    refine lv_icmp_lt (tgt := 25) hx hb dX5_transactionNumbered_12 (by decide) (fun c11 => ?_) (fun c11 => ?_)
    · obtain ⟨j, hj, rfl⟩ := nI_of c1
      have hjT : j < nT := by
        rcases Nat.lt_or_ge j nT with h | h
        · exact h
        · exact absurd c11 (nI_nlt h hj)
      refine lv_aload_n hx hb dX5_transactionNumbered_25 rfl (lv_at hl 0 rfl) ?_
      refine kk_get hx hb hts hown hE hW hC.u rfl hiRX5 2 (by decide) (hts (.fieldLink RX5 24 "UndoCellar" "begun" "Ljava/util/ArrayList;") (by decide +kernel)) (fun _ h9 => h9) rfl dX5_transactionNumbered_26 ?_
      refine lv_iload_n hx hb dX5_transactionNumbered_29 rfl (lv_at hl 1 rfl) ?_
      obtain ⟨_, _, _, ehL12, hL12, -⟩ := id hC.lt
      refine kk_q (va_runV (As := [.int (nI j)]) (rest := []) ⟨hx, hb, hml, hown, hts⟩ (c_get l D A ad w 3 5 nT tkey hC.lt (by have := hN.2.2.2.2.2.1; omega) j hjT) (cwV 1 hts gX5_transactionNumbered_Jx4a65c_get_915e3 rfl rfl rfl (by decide +kernel) ⟨Nat.le_of_ble_eq_true rfl, Nat.le_of_ble_eq_true rfl⟩) (kV hE hW hL12 rfl _) rfl rfl hl.1 rfl (lv_room (Nat.le_of_ble_eq_true rfl)) dX5_transactionNumbered_30 ⟨Nat.le_of_ble_eq_true rfl, Nat.le_of_ble_eq_true rfl⟩) hW (fun r16 ad13 w14 H17 locs hp15 hW => ?_)
      obtain ⟨e18, e19, e20⟩ := hp15
      rw [e19, e20] at hW
      subst e18
      refine W.eq (g2 := F0 m 33 ls [.ref (ad (tkey j))]) rfl ?_
      refine kk_cast hx hb hown (hts (.classLink RX5 69 "UndoCellar$Transaction") (by decide +kernel)) hE hW (hC.t hjT) rfl dX5_transactionNumbered_33 ?_
      exact vx_ret (ke_q hx hb hr (Or.inl ⟨_, rfl⟩) hlocks (Nat.le_of_ble_eq_true rfl) (Nat.le_of_ble_eq_true rfl) dX5_transactionNumbered_36 (show _ = va_rf (some (ad (tkey (nv (nI j))))) from by rw [nv_nI hj]; rfl) hW (⟨rfl, (trP_iff hN).mpr ⟨j, hjT, rfl⟩, rfl, rfl⟩))
    · exact kk_throw kf_IO hx hb hnt hown (fun w h => hts w (List.mem_cons_of_mem _ (List.mem_append_right _ h))) (hts (.classLink RX5 189 "java/lang/IndexOutOfBoundsException") (by decide +kernel)) (hts (.initialized "java/lang/IndexOutOfBoundsException") (by decide +kernel)) hE hW (hl.1.trans hml.symm) (hE.R 6 rfl) dX5_transactionNumbered_15 dX5_transactionNumbered_18 dX5_transactionNumbered_19 dX5_transactionNumbered_21 dX5_transactionNumbered_24 hout ⟨Nat.le_of_ble_eq_true rfl, Nat.le_of_ble_eq_true rfl, Nat.le_of_ble_eq_true rfl, Nat.le_of_ble_eq_true rfl⟩ hlocks (⟨rfl, fun q => by obtain ⟨j, hj, e⟩ := (trP_iff hN).mp q; exact c11 (by rw [e]; exact nI_lt hj (by omega))⟩) (Nat.le_of_ble_eq_true rfl) (Nat.le_of_ble_eq_true rfl)

set_option maxHeartbeats 4000000 in
set_option maxRecDepth 100000 in
/-- k_X5_rowNumbered -/
theorem k_X5_rowNumbered (l : Launch) (hnt : l.stackTraces = false) (D : va_G) (A : Nat → Prop) (ad : Nat → Nat) (w : kWd) (S : St) (nT nC nD nM nZ : Nat) (hC : CW D S ad w nT nC) (hN : SN S nT nC nD nM nZ) (r : Int32) : vx_Met l yX5_rowNumbered wsX5_rowNumbered ({ frames := 6, cells := 1, slots := 6, locals := 100 }) (kPc D A [.ref (ad 0), .int r] ad w) (kQq D A (fun v ad' w' => v = some (ad (24 + nv r)) ∧ roP r ∧ ad' = ad ∧ w' = w)) (kX D A (fun E => E = xIO ∧ ¬ roP r) ad w) 1 6 A := by
  refine vx_ofW (cc := cX5_rowNumbered) (maxL := 2) (ret := (some (.object "UndoCellar$Row"))) (by decide) rfl ?_
  intro p e s m args below meth c s₁ B hml hout hv
  obtain ⟨rfl, hE, hW0, hI0, hA⟩ := hv
  have hx := B.exec
  have hb := B.bytes
  have hr := B.returns
  have hts := atoms_spec (ws := wsX5_rowNumbered) B.pre
  have hown : s.vm.findClass RX5 = some m.cls := findClass_of_methodNamed B.named
  have hlocks := B.notSynchronized
  have hiRX5 : ∀ w ∈ wsX50, w ∈ wsX5_rowNumbered := by decide +kernel
  have hW : kS D A s.heap ad w s.heap [] := ⟨hW0, hI0, va_S.rf, hA⟩
  have hl := lv_entry ([.ref (ad 0), .int r]) (n := 2) (Nat.le_of_ble_eq_true rfl)
  rw [lg_entry_eq]
  generalize (lg_sl ([.ref (ad 0), .int r]) ++ List.replicate (2 - (lg_sl ([.ref (ad 0), .int r])).length) Slot.unset).toArray = ls at hl ⊢
  have hl : lv_has ls 2 [(0, .ref (ad 0)), (1, .int r)] := hl
  obtain ⟨fR, hfR, hR12⟩ := hC.rs
  refine lv_iload_n hx hb dX5_rowNumbered_0 rfl (lv_at hl 1 rfl) ?_
  refine lv_if_lt (tgt := 13) hx hb dX5_rowNumbered_1 (by decide) (fun c1 => ?_) (fun c1 => ?_)
  · exact kk_throw kf_IO hx hb hnt hown (fun w h => hts w (List.mem_cons_of_mem _ (List.mem_append_right _ h))) (hts (.classLink RX5 189 "java/lang/IndexOutOfBoundsException") (by decide +kernel)) (hts (.initialized "java/lang/IndexOutOfBoundsException") (by decide +kernel)) hE hW (hl.1.trans hml.symm) (hE.R 7 rfl) dX5_rowNumbered_13 dX5_rowNumbered_16 dX5_rowNumbered_17 dX5_rowNumbered_19 dX5_rowNumbered_22 hout ⟨Nat.le_of_ble_eq_true rfl, Nat.le_of_ble_eq_true rfl, Nat.le_of_ble_eq_true rfl, Nat.le_of_ble_eq_true rfl⟩ hlocks (⟨rfl, fun q => q.1 c1⟩) (Nat.le_of_ble_eq_true rfl) (Nat.le_of_ble_eq_true rfl)
  · refine lv_iload_n hx hb dX5_rowNumbered_4 rfl (lv_at hl 1 rfl) ?_
    refine lv_aload_n hx hb dX5_rowNumbered_5 rfl (lv_at hl 0 rfl) ?_
    refine kk_get hx hb hts hown hE hW hC.u rfl hiRX5 1 (by decide) (hts (.fieldLink RX5 17 "UndoCellar" "rows" "[LUndoCellar$Row;") (by decide +kernel)) (fun _ h9 => h9) rfl dX5_rowNumbered_6 ?_
    refine kk_alen hx hb hE hW 4 hfR rfl (v := nI 12) rfl dX5_rowNumbered_9 ?_
    refine lv_icmp_lt (tgt := 23) hx hb dX5_rowNumbered_10 (by decide) (fun c2 => ?_) (fun c2 => ?_)
    · obtain ⟨j, hj, rfl⟩ := nI_of c1
      have hj12 : j < 12 := by
        rcases Nat.lt_or_ge j 12 with h | h
        · exact h
        · exact absurd c2 (nI_nlt h hj)
      refine lv_aload_n hx hb dX5_rowNumbered_23 rfl (lv_at hl 0 rfl) ?_
      refine kk_get hx hb hts hown hE hW hC.u rfl hiRX5 1 (by decide) (hts (.fieldLink RX5 17 "UndoCellar" "rows" "[LUndoCellar$Row;") (by decide +kernel)) (fun _ h9 => h9) rfl dX5_rowNumbered_24 ?_
      refine lv_iload_n hx hb dX5_rowNumbered_27 rfl (lv_at hl 1 rfl) ?_
      refine kk_aald hx hb hE hW 4 rfl hfR (vp_in_nI hj12 (by decide)) (v := .ref (ad (24 + j))) (by rw [nI_clamp hj, hR12 j hj12]; rfl) dX5_rowNumbered_28 ?_
      exact vx_ret (ke_q hx hb hr (Or.inl ⟨_, rfl⟩) hlocks (Nat.le_of_ble_eq_true rfl) (Nat.le_of_ble_eq_true rfl) dX5_rowNumbered_29 (show _ = va_rf (some (ad (24 + nv (nI j)))) from by rw [nv_nI hj]; rfl) hW (⟨rfl, roP_iff.mpr ⟨j, hj12, rfl⟩, rfl, rfl⟩))
    · exact kk_throw kf_IO hx hb hnt hown (fun w h => hts w (List.mem_cons_of_mem _ (List.mem_append_right _ h))) (hts (.classLink RX5 189 "java/lang/IndexOutOfBoundsException") (by decide +kernel)) (hts (.initialized "java/lang/IndexOutOfBoundsException") (by decide +kernel)) hE hW (hl.1.trans hml.symm) (hE.R 7 rfl) dX5_rowNumbered_13 dX5_rowNumbered_16 dX5_rowNumbered_17 dX5_rowNumbered_19 dX5_rowNumbered_22 hout ⟨Nat.le_of_ble_eq_true rfl, Nat.le_of_ble_eq_true rfl, Nat.le_of_ble_eq_true rfl, Nat.le_of_ble_eq_true rfl⟩ hlocks (⟨rfl, fun q => by obtain ⟨j, hj, e⟩ := roP_iff.mp q; exact c2 (by rw [e]; exact nI_lt hj (by decide))⟩) (Nat.le_of_ble_eq_true rfl) (Nat.le_of_ble_eq_true rfl)

set_option maxHeartbeats 4000000 in
set_option maxRecDepth 100000 in
/-- k_X5_slotNumbered -/
theorem k_X5_slotNumbered (l : Launch) (hnt : l.stackTraces = false) (D : va_G) (A : Nat → Prop) (ad : Nat → Nat) (w : kWd) (S : St) (nT nC nD nM nZ : Nat) (hC : CW D S ad w nT nC) (hN : SN S nT nC nD nM nZ) (b k : Int32) : vx_Met l yX5_slotNumbered wsX5_slotNumbered ({ frames := 6, cells := 1, slots := 6, locals := 100 }) (kPc D A [.ref (ad 0), .int b, .int k] ad w) (kQq D A (fun v ad' w' => v = some (ad (16 + nv (2 * b + k))) ∧ slP b k ∧ ad' = ad ∧ w' = w)) (kX D A (fun E => E = xIO ∧ ¬ slP b k) ad w) 1 6 A := by
  refine vx_ofW (cc := cX5_slotNumbered) (maxL := 4) (ret := (some (.object "UndoCellar$Slot"))) (by decide) rfl ?_
  intro p e s m args below meth c s₁ B hml hout hv
  obtain ⟨rfl, hE, hW0, hI0, hA⟩ := hv
  have hx := B.exec
  have hb := B.bytes
  have hr := B.returns
  have hts := atoms_spec (ws := wsX5_slotNumbered) B.pre
  have hown : s.vm.findClass RX5 = some m.cls := findClass_of_methodNamed B.named
  have hlocks := B.notSynchronized
  have hiRX0 : ∀ w ∈ wsX00, w ∈ wsX5_slotNumbered := by decide +kernel
  have hiRX5 : ∀ w ∈ wsX50, w ∈ wsX5_slotNumbered := by decide +kernel
  have hW : kS D A s.heap ad w s.heap [] := ⟨hW0, hI0, va_S.rf, hA⟩
  have hl := lv_entry ([.ref (ad 0), .int b, .int k]) (n := 4) (Nat.le_of_ble_eq_true rfl)
  rw [lg_entry_eq]
  generalize (lg_sl ([.ref (ad 0), .int b, .int k]) ++ List.replicate (4 - (lg_sl ([.ref (ad 0), .int b, .int k])).length) Slot.unset).toArray = ls at hl ⊢
  have hl : lv_has ls 4 [(0, .ref (ad 0)), (1, .int b), (2, .int k)] := hl
  obtain ⟨fB, hfB, hB3⟩ := hC.bs
  refine lv_iload_n hx hb dX5_slotNumbered_0 rfl (lv_at hl 1 rfl) ?_
  refine lv_if_lt (tgt := 13) hx hb dX5_slotNumbered_1 (by decide) (fun c1 => ?_) (fun c1 => ?_)
  · exact kk_throw kf_IO hx hb hnt hown (fun w h => hts w (List.mem_cons_of_mem _ (List.mem_append_right _ h))) (hts (.classLink RX5 189 "java/lang/IndexOutOfBoundsException") (by decide +kernel)) (hts (.initialized "java/lang/IndexOutOfBoundsException") (by decide +kernel)) hE hW (hl.1.trans hml.symm) (hE.R 8 rfl) dX5_slotNumbered_13 dX5_slotNumbered_16 dX5_slotNumbered_17 dX5_slotNumbered_19 dX5_slotNumbered_22 hout ⟨Nat.le_of_ble_eq_true rfl, Nat.le_of_ble_eq_true rfl, Nat.le_of_ble_eq_true rfl, Nat.le_of_ble_eq_true rfl⟩ hlocks (⟨rfl, fun q => q.1.1 c1⟩) (Nat.le_of_ble_eq_true rfl) (Nat.le_of_ble_eq_true rfl)
  · refine lv_iload_n hx hb dX5_slotNumbered_4 rfl (lv_at hl 1 rfl) ?_
    refine lv_aload_n hx hb dX5_slotNumbered_5 rfl (lv_at hl 0 rfl) ?_
    refine kk_get hx hb hts hown hE hW hC.u rfl hiRX5 0 (by decide) (hts (.fieldLink RX5 11 "UndoCellar" "blocks" "[LUndoCellar$Block;") (by decide +kernel)) (fun _ h9 => h9) rfl dX5_slotNumbered_6 ?_
    refine kk_alen hx hb hE hW 3 hfB rfl (v := nI 3) rfl dX5_slotNumbered_9 ?_
    refine lv_icmp_lt (tgt := 23) hx hb dX5_slotNumbered_10 (by decide) (fun c2 => ?_) (fun c2 => ?_)
    · obtain ⟨b, hj, rfl⟩ := nI_of c1
      have hb3 : b < 3 := by
        rcases Nat.lt_or_ge b 3 with h | h
        · exact h
        · exact absurd c2 (nI_nlt h hj)
      obtain ⟨fS, hfS, hS2⟩ := hC.sa hb3
      refine lv_aload_n hx hb dX5_slotNumbered_23 rfl (lv_at hl 0 rfl) ?_
      refine kk_get hx hb hts hown hE hW hC.u rfl hiRX5 0 (by decide) (hts (.fieldLink RX5 11 "UndoCellar" "blocks" "[LUndoCellar$Block;") (by decide +kernel)) (fun _ h9 => h9) rfl dX5_slotNumbered_24 ?_
      refine lv_iload_n hx hb dX5_slotNumbered_27 rfl (lv_at hl 1 rfl) ?_
      refine kk_aald hx hb hE hW 3 rfl hfB (vp_in_nI hb3 (by decide)) (v := .ref (ad (10 + b))) (by rw [nI_clamp hj, hB3 b hb3]; rfl) dX5_slotNumbered_28 ?_
      refine kk_getN hx hb hts hown hE hW (hC.b hb3) rfl hiRX0 0 (by decide) (hE.N 4 rfl) (fun _ h9 => h9) rfl dX5_slotNumbered_29 ?_
      refine lv_astore_n (lv' := [(3, .ref (ad (13 + b))), (0, .ref (ad 0)), (1, .int (nI b)), (2, .int k)]) hx hb dX5_slotNumbered_32 rfl hl (by decide) rfl (fun ls hl => ?_)
      refine lv_iload_n hx hb dX5_slotNumbered_33 rfl (lv_at hl 3 rfl) ?_
      refine lv_if_lt (tgt := 43) hx hb dX5_slotNumbered_34 (by decide) (fun c3 => ?_) (fun c3 => ?_)
      · exact kk_throw kf_IO hx hb hnt hown (fun w h => hts w (List.mem_cons_of_mem _ (List.mem_append_right _ h))) (hts (.classLink RX5 189 "java/lang/IndexOutOfBoundsException") (by decide +kernel)) (hts (.initialized "java/lang/IndexOutOfBoundsException") (by decide +kernel)) hE hW (hl.1.trans hml.symm) (hE.R 9 rfl) dX5_slotNumbered_43 dX5_slotNumbered_46 dX5_slotNumbered_47 dX5_slotNumbered_49 dX5_slotNumbered_52 hout ⟨Nat.le_of_ble_eq_true rfl, Nat.le_of_ble_eq_true rfl, Nat.le_of_ble_eq_true rfl, Nat.le_of_ble_eq_true rfl⟩ hlocks (⟨rfl, fun q => q.2.1 c3⟩) (Nat.le_of_ble_eq_true rfl) (Nat.le_of_ble_eq_true rfl)
      · refine lv_iload_n hx hb dX5_slotNumbered_37 rfl (lv_at hl 3 rfl) ?_
        refine lv_aload_n hx hb dX5_slotNumbered_38 rfl (lv_at hl 0 rfl) ?_
        refine kk_alen hx hb hE hW 5 hfS rfl (v := nI 2) rfl dX5_slotNumbered_39 ?_
        refine lv_icmp_lt (tgt := 53) hx hb dX5_slotNumbered_40 (by decide) (fun c4 => ?_) (fun c4 => ?_)
        · obtain ⟨k, hk, rfl⟩ := nI_of c3
          have hk2 : k < 2 := by
            rcases Nat.lt_or_ge k 2 with h | h
            · exact h
            · exact absurd c4 (nI_nlt h hk)
          refine lv_aload_n hx hb dX5_slotNumbered_53 rfl (lv_at hl 0 rfl) ?_
          refine lv_iload_n hx hb dX5_slotNumbered_54 rfl (lv_at hl 3 rfl) ?_
          refine kk_aald hx hb hE hW 5 rfl hfS (vp_in_nI hk2 (by decide)) (v := .ref (ad (16 + (2 * b + k)))) (by rw [nI_clamp hk, hS2 k hk2]; rfl) dX5_slotNumbered_55 ?_
          exact vx_ret (ke_q hx hb hr (Or.inl ⟨_, rfl⟩) hlocks (Nat.le_of_ble_eq_true rfl) (Nat.le_of_ble_eq_true rfl) dX5_slotNumbered_56 (show _ = va_rf (some (ad (16 + nv (2 * nI b + nI k)))) from by rw [nI_2, nI_add, nv_nI (by omega)]; rfl) hW (⟨rfl, ⟨inP_of (n := 2) (by decide) (by omega), inP_of (n := 1) (by decide) (by omega)⟩, rfl, rfl⟩))
        · exact kk_throw kf_IO hx hb hnt hown (fun w h => hts w (List.mem_cons_of_mem _ (List.mem_append_right _ h))) (hts (.classLink RX5 189 "java/lang/IndexOutOfBoundsException") (by decide +kernel)) (hts (.initialized "java/lang/IndexOutOfBoundsException") (by decide +kernel)) hE hW (hl.1.trans hml.symm) (hE.R 9 rfl) dX5_slotNumbered_43 dX5_slotNumbered_46 dX5_slotNumbered_47 dX5_slotNumbered_49 dX5_slotNumbered_52 hout ⟨Nat.le_of_ble_eq_true rfl, Nat.le_of_ble_eq_true rfl, Nat.le_of_ble_eq_true rfl, Nat.le_of_ble_eq_true rfl⟩ hlocks (⟨rfl, fun q => by obtain ⟨j, hj9, e⟩ := inP_N (n := 1) (by decide) q.2; exact c4 (by rw [e]; exact nI_lt (by omega) (by decide))⟩) (Nat.le_of_ble_eq_true rfl) (Nat.le_of_ble_eq_true rfl)
    · exact kk_throw kf_IO hx hb hnt hown (fun w h => hts w (List.mem_cons_of_mem _ (List.mem_append_right _ h))) (hts (.classLink RX5 189 "java/lang/IndexOutOfBoundsException") (by decide +kernel)) (hts (.initialized "java/lang/IndexOutOfBoundsException") (by decide +kernel)) hE hW (hl.1.trans hml.symm) (hE.R 8 rfl) dX5_slotNumbered_13 dX5_slotNumbered_16 dX5_slotNumbered_17 dX5_slotNumbered_19 dX5_slotNumbered_22 hout ⟨Nat.le_of_ble_eq_true rfl, Nat.le_of_ble_eq_true rfl, Nat.le_of_ble_eq_true rfl, Nat.le_of_ble_eq_true rfl⟩ hlocks (⟨rfl, fun q => by obtain ⟨j, hj, e⟩ := inP_N (n := 2) (by decide) q.1; exact c2 (by rw [e]; exact nI_lt (by omega) (by decide))⟩) (Nat.le_of_ble_eq_true rfl) (Nat.le_of_ble_eq_true rfl)

set_option maxHeartbeats 4000000 in
set_option maxRecDepth 100000 in
/-- k_X5_refuseIfEnded -/
theorem k_X5_refuseIfEnded (l : Launch) (hnt : l.stackTraces = false) (D : va_G) (A : Nat → Prop) (ad : Nat → Nat) (w : kWd) (S : St) (nT nC nD nM nZ : Nat) (hC : CW D S ad w nT nC) (hN : SN S nT nC nD nM nZ) (t : Nat) (ht : t < nT) : vx_Met l yX5_refuseIfEnded wsX5_refuseIfEnded ({ frames := 6, cells := 1, slots := 6, locals := 100 }) (kPc D A [.ref (ad 0), .ref (ad (tkey t))] ad w) (kQv D A (fun ad' w' => S 1 t = 0 ∧ ad' = ad ∧ w' = w)) (kX D A (fun E => E = xIS ∧ ¬ S 1 t = 0) ad w) 1 6 A := by
  refine vx_ofW (cc := cX5_refuseIfEnded) (maxL := 2) (ret := none) (by decide) rfl ?_
  intro p e s m args below meth c s₁ B hml hout hv
  obtain ⟨rfl, hE, hW0, hI0, hA⟩ := hv
  have hx := B.exec
  have hb := B.bytes
  have hr := B.returns
  have hts := atoms_spec (ws := wsX5_refuseIfEnded) B.pre
  have hown : s.vm.findClass RX5 = some m.cls := findClass_of_methodNamed B.named
  have hlocks := B.notSynchronized
  have hiRX4 : ∀ w ∈ wsX40, w ∈ wsX5_refuseIfEnded := by decide +kernel
  have hW : kS D A s.heap ad w s.heap [] := ⟨hW0, hI0, va_S.rf, hA⟩
  have hl := lv_entry ([.ref (ad 0), .ref (ad (tkey t))]) (n := 2) (Nat.le_of_ble_eq_true rfl)
  rw [lg_entry_eq]
  generalize (lg_sl ([.ref (ad 0), .ref (ad (tkey t))]) ++ List.replicate (2 - (lg_sl ([.ref (ad 0), .ref (ad (tkey t))])).length) Slot.unset).toArray = ls at hl ⊢
  have hl : lv_has ls 2 [(0, .ref (ad 0)), (1, .ref (ad (tkey t)))] := hl
  refine lv_aload_n hx hb dX5_refuseIfEnded_0 rfl (lv_at hl 1 rfl) ?_
  refine kk_getN hx hb hts hown hE hW (hC.t (by assumption)) rfl hiRX4 2 (by decide) (hE.N 11 rfl) (fun _ h9 => h9) rfl dX5_refuseIfEnded_1 ?_
  refine lv_if_ne (tgt := 17) hx hb dX5_refuseIfEnded_4 (by decide) (fun c1 => ?_) (fun c1 => ?_)
  · exact vx_ret (ke_v hx hb hr hlocks (Nat.le_of_ble_eq_true rfl) (Nat.le_of_ble_eq_true rfl) dX5_refuseIfEnded_17 hW (⟨bI_t c1, rfl, rfl⟩))
  · exact kk_throw kf_IS hx hb hnt hown (fun w h => hts w (List.mem_cons_of_mem _ (List.mem_append_right _ h))) (hts (.classLink RX5 59 "java/lang/IllegalStateException") (by decide +kernel)) (hts (.initialized "java/lang/IllegalStateException") (by decide +kernel)) hE hW (hl.1.trans hml.symm) (hE.R 10 rfl) dX5_refuseIfEnded_7 dX5_refuseIfEnded_10 dX5_refuseIfEnded_11 dX5_refuseIfEnded_13 dX5_refuseIfEnded_16 hout ⟨Nat.le_of_ble_eq_true rfl, Nat.le_of_ble_eq_true rfl, Nat.le_of_ble_eq_true rfl, Nat.le_of_ble_eq_true rfl⟩ hlocks (⟨rfl, bI_f c1⟩) (Nat.le_of_ble_eq_true rfl) (Nat.le_of_ble_eq_true rfl)

set_option maxHeartbeats 4000000 in
set_option maxRecDepth 100000 in
/-- k_X5_refuseIfNotYet -/
theorem k_X5_refuseIfNotYet (l : Launch) (hnt : l.stackTraces = false) (D : va_G) (A : Nat → Prop) (ad : Nat → Nat) (w : kWd) (S : St) (nT nC nD nM nZ : Nat) (hC : CW D S ad w nT nC) (hN : SN S nT nC nD nM nZ) (mm : Int32) : vx_Met l yX5_refuseIfNotYet wsX5_refuseIfNotYet ({ frames := 6, cells := 1, slots := 6, locals := 100 }) (kPc D A [.ref (ad 0), .int mm] ad w) (kQv D A (fun ad' w' => inP mm 0 (S 11 0) ∧ ad' = ad ∧ w' = w)) (kX D A (fun E => E = xIA ∧ ¬ inP mm 0 (S 11 0)) ad w) 1 6 A := by
  refine vx_ofW (cc := cX5_refuseIfNotYet) (maxL := 2) (ret := none) (by decide) rfl ?_
  intro p e s m args below meth c s₁ B hml hout hv
  obtain ⟨rfl, hE, hW0, hI0, hA⟩ := hv
  have hx := B.exec
  have hb := B.bytes
  have hr := B.returns
  have hts := atoms_spec (ws := wsX5_refuseIfNotYet) B.pre
  have hown : s.vm.findClass RX5 = some m.cls := findClass_of_methodNamed B.named
  have hlocks := B.notSynchronized
  have hiRX5 : ∀ w ∈ wsX50, w ∈ wsX5_refuseIfNotYet := by decide +kernel
  have hW : kS D A s.heap ad w s.heap [] := ⟨hW0, hI0, va_S.rf, hA⟩
  have hl := lv_entry ([.ref (ad 0), .int mm]) (n := 2) (Nat.le_of_ble_eq_true rfl)
  rw [lg_entry_eq]
  generalize (lg_sl ([.ref (ad 0), .int mm]) ++ List.replicate (2 - (lg_sl ([.ref (ad 0), .int mm])).length) Slot.unset).toArray = ls at hl ⊢
  have hl : lv_has ls 2 [(0, .ref (ad 0)), (1, .int mm)] := hl
  refine lv_iload_n hx hb dX5_refuseIfNotYet_0 rfl (lv_at hl 1 rfl) ?_
  refine lv_if_lt (tgt := 12) hx hb dX5_refuseIfNotYet_1 (by decide) (fun c1 => ?_) (fun c1 => ?_)
  · exact kk_throw kf_IA hx hb hnt hown (fun w h => hts w (List.mem_cons_of_mem _ (List.mem_append_right _ h))) (hts (.classLink RX5 48 "java/lang/IllegalArgumentException") (by decide +kernel)) (hts (.initialized "java/lang/IllegalArgumentException") (by decide +kernel)) hE hW (hl.1.trans hml.symm) (hE.R 11 rfl) dX5_refuseIfNotYet_12 dX5_refuseIfNotYet_15 dX5_refuseIfNotYet_16 dX5_refuseIfNotYet_18 dX5_refuseIfNotYet_21 hout ⟨Nat.le_of_ble_eq_true rfl, Nat.le_of_ble_eq_true rfl, Nat.le_of_ble_eq_true rfl, Nat.le_of_ble_eq_true rfl⟩ hlocks (⟨rfl, fun q => q.1 c1⟩) (Nat.le_of_ble_eq_true rfl) (Nat.le_of_ble_eq_true rfl)
  · refine lv_iload_n hx hb dX5_refuseIfNotYet_4 rfl (lv_at hl 1 rfl) ?_
    refine lv_aload_n hx hb dX5_refuseIfNotYet_5 rfl (lv_at hl 0 rfl) ?_
    refine kk_get hx hb hts hown hE hW hC.u rfl hiRX5 5 (by decide) (hts (.fieldLink RX5 35 "UndoCellar" "momentOfNow" "I") (by decide +kernel)) (fun _ h9 => h9) rfl dX5_refuseIfNotYet_6 ?_
    refine lv_icmp_le (tgt := 22) hx hb dX5_refuseIfNotYet_9 (by decide) (fun c2 => ?_) (fun c2 => ?_)
    · exact vx_ret (ke_v hx hb hr hlocks (Nat.le_of_ble_eq_true rfl) (Nat.le_of_ble_eq_true rfl) dX5_refuseIfNotYet_22 hW (⟨⟨c1, Int32.not_lt.mpr c2⟩, rfl, rfl⟩))
    · exact kk_throw kf_IA hx hb hnt hown (fun w h => hts w (List.mem_cons_of_mem _ (List.mem_append_right _ h))) (hts (.classLink RX5 48 "java/lang/IllegalArgumentException") (by decide +kernel)) (hts (.initialized "java/lang/IllegalArgumentException") (by decide +kernel)) hE hW (hl.1.trans hml.symm) (hE.R 11 rfl) dX5_refuseIfNotYet_12 dX5_refuseIfNotYet_15 dX5_refuseIfNotYet_16 dX5_refuseIfNotYet_18 dX5_refuseIfNotYet_21 hout ⟨Nat.le_of_ble_eq_true rfl, Nat.le_of_ble_eq_true rfl, Nat.le_of_ble_eq_true rfl, Nat.le_of_ble_eq_true rfl⟩ hlocks (⟨rfl, fun q => q.2 (Int32.not_le.mp c2)⟩) (Nat.le_of_ble_eq_true rfl) (Nat.le_of_ble_eq_true rfl)

