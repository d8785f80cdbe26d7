/-! the reference: its small methods -/
set_option maxHeartbeats 4000000 in
set_option maxRecDepth 100000 in
/-- c_thrown -/
theorem c_thrown (l : Launch) (D : va_G) (A : Nat → Prop) (ad : Nat → Nat) (w : kWd) (S : St) (hM : MW D S ad w w)  : Met l yX6_thrown wsX6_thrown ({ frames := 0, cells := 0, slots := 0, locals := 0 }) (kPc D A [.ref (ad 2000)] ad w) (kQi D A (fun r ad' w' => r = S 17 0 ∧ ad' = ad ∧ w' = w)) 0 0 A := by
  refine Met.ofW (cc := cX6_thrown) (maxL := 1) (ret := (some (.int))) (by decide) rfl ?_
  intro p e s m args below meth c s₁ B hml hv
  obtain ⟨rfl, hE, hW0, hI0, hA⟩ := hv
  have hx := B.exec
  have hb := B.bytes
  have hr := B.returns
  have hts := atoms_spec (ws := wsX6_thrown) B.pre
  have hown : s.vm.findClass RX6 = some m.cls := findClass_of_methodNamed B.named
  have hlocks := B.notSynchronized
  have hiRX6 : ∀ w ∈ wsX60, w ∈ wsX6_thrown := by decide +kernel
  have hW : kS D A s.heap ad w s.heap [] := ⟨hW0, hI0, va_S.rf, hA⟩
  have hl := lv_entry ([.ref (ad 2000)]) (n := 1) (Nat.le_of_ble_eq_true rfl)
  rw [lg_entry_eq]
  generalize (lg_sl ([.ref (ad 2000)]) ++ List.replicate (1 - (lg_sl ([.ref (ad 2000)])).length) Slot.unset).toArray = ls at hl ⊢
  have hl : lv_has ls 1 [(0, .ref (ad 2000))] := hl
  refine lv_aload_n hx hb dX6_thrown_0 rfl (lv_at hl 0 rfl) ?_
  refine kk_get hx hb hts hown hE hW hM.o rfl hiRX6 17 (by decide) (hts (.fieldLink RX6 45 "UndoCellarModel" "thrown" "I") (by decide +kernel)) (fun _ h9 => h9) rfl dX6_thrown_1 ?_
  exact ke_i hx hb hr hlocks (Nat.le_of_ble_eq_true rfl) (Nat.le_of_ble_eq_true rfl) dX6_thrown_4 hW (⟨rfl, rfl, rfl⟩)

set_option maxHeartbeats 4000000 in
set_option maxRecDepth 100000 in
/-- c_can -/
theorem c_can (l : Launch) (D : va_G) (A : Nat → Prop) (ad : Nat → Nat) (w : kWd) (S : St) (hM : MW D S ad w w) (f : Int32) : Met l yX6_can wsX6_can ({ frames := 0, cells := 0, slots := 0, locals := 0 }) (kPc D A [.ref (ad 2000), .int f] ad w) (kQi D A (fun r ad' w' => r = bI (f = 0) ∧ ad' = ad ∧ MW D (sS S 17 f) ad w w')) 0 0 A := by
  refine Met.ofW (cc := cX6_can) (maxL := 2) (ret := (some (.boolean))) (by decide) rfl ?_
  intro p e s m args below meth c s₁ B hml hv
  obtain ⟨rfl, hE, hW0, hI0, hA⟩ := hv
  have hx := B.exec
  have hb := B.bytes
  have hr := B.returns
  have hts := atoms_spec (ws := wsX6_can) B.pre
  have hown : s.vm.findClass RX6 = some m.cls := findClass_of_methodNamed B.named
  have hlocks := B.notSynchronized
  have hiRX6 : ∀ w ∈ wsX60, w ∈ wsX6_can := by decide +kernel
  have hW : kS D A s.heap ad w s.heap [] := ⟨hW0, hI0, va_S.rf, hA⟩
  have hl := lv_entry ([.ref (ad 2000), .int f]) (n := 2) (Nat.le_of_ble_eq_true rfl)
  rw [lg_entry_eq]
  generalize (lg_sl ([.ref (ad 2000), .int f]) ++ List.replicate (2 - (lg_sl ([.ref (ad 2000), .int f])).length) Slot.unset).toArray = ls at hl ⊢
  have hl : lv_has ls 2 [(0, .ref (ad 2000)), (1, .int f)] := hl
  refine lv_aload_n hx hb dX6_can_0 rfl (lv_at hl 0 rfl) ?_
  refine lv_iload_n hx hb dX6_can_1 rfl (lv_at hl 1 rfl) ?_
  refine kk_put hx hb hts hown hE hW hM.o rfl hiRX6 tyX6 tyX6_ok nmX6 17 (by decide) (hts (.fieldLink RX6 45 "UndoCellarModel" "thrown" "I") (by decide +kernel)) (fun _ h9 => h9) rfl (ty := tyX6 17) (tyX6_ok 17 (by decide)) rfl rfl (Nat.le_of_ble_eq_true rfl) dX6_can_2 (fun H3 locs w1 e2 hW => ?_)
  have hM := hM.s17 e2
  refine lv_iload_n hx hb dX6_can_5 rfl (lv_at hl 1 rfl) ?_
  refine lv_if_ne (tgt := 13) hx hb dX6_can_6 (by decide) (fun c4 => ?_) (fun c4 => ?_)
  · refine lv_iconst (v := 0) hx hb dX6_can_13 (by decide) ?_
    exact ke_z hx hb hr hlocks (Nat.le_of_ble_eq_true rfl) (Nat.le_of_ble_eq_true rfl) dX6_can_14 (by first | exact Or.inl rfl | exact Or.inr rfl | assumption) hW (⟨(bI_0 c4).symm, rfl, hM⟩)
  · refine lv_iconst (v := 1) hx hb dX6_can_9 (by decide) ?_
    refine lv_goto (tgt := 14) hx hb dX6_can_10 (by decide) ?_
    exact ke_z hx hb hr hlocks (Nat.le_of_ble_eq_true rfl) (Nat.le_of_ble_eq_true rfl) dX6_can_14 (by first | exact Or.inl rfl | exact Or.inr rfl | assumption) hW (⟨(bI_1 c4).symm, rfl, hM⟩)

set_option maxHeartbeats 4000000 in
set_option maxRecDepth 100000 in
/-- c_isIn -/
theorem c_isIn (l : Launch) (D : va_G) (A : Nat → Prop) (ad : Nat → Nat) (w : kWd) (n a b : Int32) : Met l yX6_isIn wsX6_isIn ({ frames := 0, cells := 0, slots := 0, locals := 0 }) (kPc D A [.int n, .int a, .int b] ad w) (kQi D A (fun r ad' w' => r = bI (inP n a b) ∧ ad' = ad ∧ w' = w)) 0 0 A := by
  refine Met.ofW (cc := cX6_isIn) (maxL := 3) (ret := (some (.boolean))) (by decide) rfl ?_
  intro p e s m args below meth c s₁ B hml hv
  obtain ⟨rfl, hE, hW0, hI0, hA⟩ := hv
  have hx := B.exec
  have hb := B.bytes
  have hr := B.returns
  have hts := atoms_spec (ws := wsX6_isIn) B.pre
  have hown : s.vm.findClass RX6 = some m.cls := findClass_of_methodNamed B.named
  have hlocks := B.notSynchronized
  have hW : kS D A s.heap ad w s.heap [] := ⟨hW0, hI0, va_S.rf, hA⟩
  have hl := lv_entry ([.int n, .int a, .int b]) (n := 3) (Nat.le_of_ble_eq_true rfl)
  rw [lg_entry_eq]
  generalize (lg_sl ([.int n, .int a, .int b]) ++ List.replicate (3 - (lg_sl ([.int n, .int a, .int b])).length) Slot.unset).toArray = ls at hl ⊢
  have hl : lv_has ls 3 [(0, .int n), (1, .int a), (2, .int b)] := hl
  refine lv_iload_n hx hb dX6_isIn_0 rfl (lv_at hl 0 rfl) ?_
  refine lv_iload_n hx hb dX6_isIn_1 rfl (lv_at hl 1 rfl) ?_
  refine lv_icmp_lt (tgt := 14) hx hb dX6_isIn_2 (by decide) (fun c1 => ?_) (fun c1 => ?_)
  · refine lv_iconst (v := 0) hx hb dX6_isIn_14 (by decide) ?_
    exact ke_z hx hb hr hlocks (Nat.le_of_ble_eq_true rfl) (Nat.le_of_ble_eq_true rfl) dX6_isIn_15 (by first | exact Or.inl rfl | exact Or.inr rfl | assumption) hW (⟨(bI_0 (fun q => q.1 c1)).symm, rfl, rfl⟩)
  · refine lv_iload_n hx hb dX6_isIn_5 rfl (lv_at hl 0 rfl) ?_
    refine lv_iload_n hx hb dX6_isIn_6 rfl (lv_at hl 2 rfl) ?_
    refine lv_icmp_gt (tgt := 14) hx hb dX6_isIn_7 (by decide) (fun c2 => ?_) (fun c2 => ?_)
    · refine lv_iconst (v := 0) hx hb dX6_isIn_14 (by decide) ?_
      exact ke_z hx hb hr hlocks (Nat.le_of_ble_eq_true rfl) (Nat.le_of_ble_eq_true rfl) dX6_isIn_15 (by first | exact Or.inl rfl | exact Or.inr rfl | assumption) hW (⟨(bI_0 (fun q => q.2 c2)).symm, rfl, rfl⟩)
    · refine lv_iconst (v := 1) hx hb dX6_isIn_10 (by decide) ?_
      refine lv_goto (tgt := 15) hx hb dX6_isIn_11 (by decide) ?_
      exact ke_z hx hb hr hlocks (Nat.le_of_ble_eq_true rfl) (Nat.le_of_ble_eq_true rfl) dX6_isIn_15 (by first | exact Or.inl rfl | exact Or.inr rfl | assumption) hW (⟨(bI_1 ⟨c1, c2⟩).symm, rfl, rfl⟩)

set_option maxHeartbeats 4000000 in
set_option maxRecDepth 100000 in
/-- c_isRow -/
theorem c_isRow (l : Launch) (D : va_G) (A : Nat → Prop) (ad : Nat → Nat) (w : kWd) (n : Int32) : Met l yX6_isRow wsX6_isRow ({ frames := 1, cells := 0, slots := 0, locals := 22 }) (kPc D A [.int n] ad w) (kQi D A (fun r ad' w' => r = bI (inP n 0 11) ∧ ad' = ad ∧ w' = w)) 0 0 A := by
  refine Met.ofW (cc := cX6_isRow) (maxL := 1) (ret := (some (.boolean))) (by decide) rfl ?_
  intro p e s m args below meth c s₁ B hml hv
  obtain ⟨rfl, hE, hW0, hI0, hA⟩ := hv
  have hx := B.exec
  have hb := B.bytes
  have hr := B.returns
  have hts := atoms_spec (ws := wsX6_isRow) B.pre
  have hown : s.vm.findClass RX6 = some m.cls := findClass_of_methodNamed B.named
  have hlocks := B.notSynchronized
  have hW : kS D A s.heap ad w s.heap [] := ⟨hW0, hI0, va_S.rf, hA⟩
  have hl := lv_entry ([.int n]) (n := 1) (Nat.le_of_ble_eq_true rfl)
  rw [lg_entry_eq]
  generalize (lg_sl ([.int n]) ++ List.replicate (1 - (lg_sl ([.int n])).length) Slot.unset).toArray = ls at hl ⊢
  have hl : lv_has ls 1 [(0, .int n)] := hl
  refine lv_iload_n hx hb dX6_isRow_0 rfl (lv_at hl 0 rfl) ?_
  refine lv_iconst (v := 0) hx hb dX6_isRow_1 (by decide) ?_
  refine lv_bipush (v := 11) hx hb dX6_isRow_2 (by decide) ?_
  refine kk_i (va_runS (As := [.int n, .int 0, .int 11]) (rest := []) ⟨hx, hb, hml, hown, hts⟩ (c_isIn l D A ad w n 0 11) (va_cwS 3 hts gX6_isRow_X6_isIn rfl rfl rfl (by decide +kernel) ⟨Nat.le_of_ble_eq_true rfl, Nat.le_of_ble_eq_true rfl⟩) (kSt hE hW _) rfl rfl hl.1 rfl (lv_room (Nat.le_of_ble_eq_true rfl)) dX6_isRow_4 ⟨Nat.le_of_ble_eq_true rfl, Nat.le_of_ble_eq_true rfl⟩) hW (fun r4 ad1 w2 H5 locs hp3 hW => ?_)
  obtain ⟨e6, e7, e8⟩ := hp3
  rw [e7, e8] at hW
  subst e6
  exact ke_z hx hb hr hlocks (Nat.le_of_ble_eq_true rfl) (Nat.le_of_ble_eq_true rfl) dX6_isRow_7 (bI_01) hW (⟨rfl, rfl, rfl⟩)

set_option maxHeartbeats 4000000 in
set_option maxRecDepth 100000 in
/-- c_isTransaction -/
theorem c_isTransaction (l : Launch) (D : va_G) (A : Nat → Prop) (ad : Nat → Nat) (w : kWd) (S : St) (hM : MW D S ad w w) (t : Int32) : Met l yX6_isTransaction wsX6_isTransaction ({ frames := 1, cells := 0, slots := 0, locals := 22 }) (kPc D A [.ref (ad 2000), .int t] ad w) (kQi D A (fun r ad' w' => r = bI (inP t 0 (S 12 0 - 1)) ∧ ad' = ad ∧ w' = w)) 0 0 A := by
  refine Met.ofW (cc := cX6_isTransaction) (maxL := 2) (ret := (some (.boolean))) (by decide) rfl ?_
  intro p e s m args below meth c s₁ B hml hv
  obtain ⟨rfl, hE, hW0, hI0, hA⟩ := hv
  have hx := B.exec
  have hb := B.bytes
  have hr := B.returns
  have hts := atoms_spec (ws := wsX6_isTransaction) B.pre
  have hown : s.vm.findClass RX6 = some m.cls := findClass_of_methodNamed B.named
  have hlocks := B.notSynchronized
  have hiRX6 : ∀ w ∈ wsX60, w ∈ wsX6_isTransaction := by decide +kernel
  have hW : kS D A s.heap ad w s.heap [] := ⟨hW0, hI0, va_S.rf, hA⟩
  have hl := lv_entry ([.ref (ad 2000), .int t]) (n := 2) (Nat.le_of_ble_eq_true rfl)
  rw [lg_entry_eq]
  generalize (lg_sl ([.ref (ad 2000), .int t]) ++ List.replicate (2 - (lg_sl ([.ref (ad 2000), .int t])).length) Slot.unset).toArray = ls at hl ⊢
  have hl : lv_has ls 2 [(0, .ref (ad 2000)), (1, .int t)] := hl
  refine lv_iload_n hx hb dX6_isTransaction_0 rfl (lv_at hl 1 rfl) ?_
  refine lv_iconst (v := 0) hx hb dX6_isTransaction_1 (by decide) ?_
  refine lv_aload_n hx hb dX6_isTransaction_2 rfl (lv_at hl 0 rfl) ?_
  refine kk_get hx hb hts hown hE hW hM.o rfl hiRX6 3 (by decide) (hts (.fieldLink RX6 52 "UndoCellarModel" "transactions" "I") (by decide +kernel)) (fun _ h9 => h9) rfl dX6_isTransaction_3 ?_
  refine lv_iconst (v := 1) hx hb dX6_isTransaction_6 (by decide) ?_
  refine lv_isub hx hb dX6_isTransaction_7 ?_
  refine kk_i (va_runS (As := [.int t, .int 0, .int ((S 12 0) - 1)]) (rest := []) ⟨hx, hb, hml, hown, hts⟩ (c_isIn l D A ad w t 0 (S 12 0 - 1)) (va_cwS 3 hts gX6_isTransaction_X6_isIn rfl rfl rfl (by decide +kernel) ⟨Nat.le_of_ble_eq_true rfl, Nat.le_of_ble_eq_true rfl⟩) (kSt hE hW _) rfl rfl hl.1 rfl (lv_room (Nat.le_of_ble_eq_true rfl)) dX6_isTransaction_8 ⟨Nat.le_of_ble_eq_true rfl, Nat.le_of_ble_eq_true rfl⟩) hW (fun r4 ad1 w2 H5 locs hp3 hW => ?_)
  obtain ⟨e6, e7, e8⟩ := hp3
  rw [e7, e8] at hW
  subst e6
  exact ke_z hx hb hr hlocks (Nat.le_of_ble_eq_true rfl) (Nat.le_of_ble_eq_true rfl) dX6_isTransaction_11 (bI_01) hW (⟨rfl, rfl, rfl⟩)

set_option maxHeartbeats 4000000 in
set_option maxRecDepth 100000 in
/-- c_isActive -/
theorem c_isActive (l : Launch) (D : va_G) (A : Nat → Prop) (ad : Nat → Nat) (w : kWd) (S : St) (hM : MW D S ad w w) (t : Int32) (ht : vp_in t 60) : Met l yX6_isActive wsX6_isActive ({ frames := 0, cells := 0, slots := 0, locals := 0 }) (kPc D A [.ref (ad 2000), .int t] ad w) (kQi D A (fun r ad' w' => r = bI (actP S t) ∧ ad' = ad ∧ w' = w)) 0 0 A := by
  refine Met.ofW (cc := cX6_isActive) (maxL := 2) (ret := (some (.boolean))) (by decide) rfl ?_
  intro p e s m args below meth c s₁ B hml hv
  obtain ⟨rfl, hE, hW0, hI0, hA⟩ := hv
  have hx := B.exec
  have hb := B.bytes
  have hr := B.returns
  have hts := atoms_spec (ws := wsX6_isActive) B.pre
  have hown : s.vm.findClass RX6 = some m.cls := findClass_of_methodNamed B.named
  have hlocks := B.notSynchronized
  have hiRX6 : ∀ w ∈ wsX60, w ∈ wsX6_isActive := by decide +kernel
  have hW : kS D A s.heap ad w s.heap [] := ⟨hW0, hI0, va_S.rf, hA⟩
  have hl := lv_entry ([.ref (ad 2000), .int t]) (n := 2) (Nat.le_of_ble_eq_true rfl)
  rw [lg_entry_eq]
  generalize (lg_sl ([.ref (ad 2000), .int t]) ++ List.replicate (2 - (lg_sl ([.ref (ad 2000), .int t])).length) Slot.unset).toArray = ls at hl ⊢
  have hl : lv_has ls 2 [(0, .ref (ad 2000)), (1, .int t)] := hl
  refine lv_aload_n hx hb dX6_isActive_0 rfl (lv_at hl 0 rfl) ?_
  refine kk_get hx hb hts hown hE hW hM.o rfl hiRX6 4 (by decide) (hts (.fieldLink RX6 17 "UndoCellarModel" "state" "[I") (by decide +kernel)) (fun _ h9 => h9) rfl dX6_isActive_1 ?_
  refine lv_iload_n hx hb dX6_isActive_4 rfl (lv_at hl 1 rfl) ?_
  refine kk_iald hx hb hE hW hM.a1 ht dX6_isActive_5 ?_
  refine lv_if_ne (tgt := 13) hx hb dX6_isActive_6 (by decide) (fun c1 => ?_) (fun c1 => ?_)
  · refine lv_iconst (v := 0) hx hb dX6_isActive_13 (by decide) ?_
    exact ke_z hx hb hr hlocks (Nat.le_of_ble_eq_true rfl) (Nat.le_of_ble_eq_true rfl) dX6_isActive_14 (by first | exact Or.inl rfl | exact Or.inr rfl | assumption) hW (⟨(bI_0 c1).symm, rfl, rfl⟩)
  · refine lv_iconst (v := 1) hx hb dX6_isActive_9 (by decide) ?_
    refine lv_goto (tgt := 14) hx hb dX6_isActive_10 (by decide) ?_
    exact ke_z hx hb hr hlocks (Nat.le_of_ble_eq_true rfl) (Nat.le_of_ble_eq_true rfl) dX6_isActive_14 (by first | exact Or.inl rfl | exact Or.inr rfl | assumption) hW (⟨(bI_1 c1).symm, rfl, rfl⟩)

