/-! constructors, and what writes -/
theorem va_up_up {α : Type} (f : Nat → α) (k : Nat) (x y : α) : va_up (va_up f k x) k y = va_up f k y := by
  funext j
  by_cases c : j = k
  · rw [c, va_up_self, va_up_self]
  · rw [va_up_ne _ _ c, va_up_ne _ _ c, va_up_ne _ _ c]
set_option maxHeartbeats 4000000 in
set_option maxRecDepth 100000 in
/-- k_X4_init -/
theorem k_X4_init (l : Launch) (D : va_G) (A : Nat → Prop) (ad : Nat → Nat) (w : kWd) (kt : Nat) (n mm : Int32) (g0 : w kt = some (.inr (5, [.int 0, .int 0, .int 0, .int 0, .int 0]))) : Met l yX4_init wsX4_init ({ frames := 1, cells := 0, slots := 0, locals := 100 }) (kPc D A [.ref (ad kt), .int n, .int mm] ad w) (kQv D A (fun ad' w' => ad' = ad ∧ w' kt = some (.inr (5, [.int n, .int mm, .int 1, .int (-1), .int 0])) ∧ ∀ k, k ≠ kt → w' k = w k)) 0 0 A := by
  refine Met.ofW (cc := cX4_init) (maxL := 3) (ret := none) (by decide) rfl ?_
  intro p e s m args below meth c s₁ B hml hv
  obtain ⟨rfl, hE, hW0, hI0, hA⟩ := hv
  have hx := B.exec
  have hb := B.bytes
  have hr := B.returns
  have hts := atoms_spec (ws := wsX4_init) B.pre
  have hown : s.vm.findClass RX4 = some m.cls := findClass_of_methodNamed B.named
  have hlocks := B.notSynchronized
  have hin : meth.name = "<init>" := (name_of_methodNamed B.named B.method).1
  have hiRX4 : ∀ w ∈ wsX40, w ∈ wsX4_init := by decide +kernel
  have hW : kS D A s.heap ad w s.heap [] := ⟨hW0, hI0, va_S.rf, hA⟩
  have hl := lv_entry ([.ref (ad kt), .int n, .int mm]) (n := 3) (Nat.le_of_ble_eq_true rfl)
  rw [lg_entry_eq]
  generalize (lg_sl ([.ref (ad kt), .int n, .int mm]) ++ List.replicate (3 - (lg_sl ([.ref (ad kt), .int n, .int mm])).length) Slot.unset).toArray = ls at hl ⊢
  have hl : lv_has ls 3 [(0, .ref (ad kt)), (1, .int n), (2, .int mm)] := hl
  refine lv_aload_n hx hb dX4_init_0 rfl (lv_at hl 0 rfl) ?_
  refine W.objInit hx hb hown (hts (.methodLink RX4 3 objectInit) (by decide +kernel)) (hts (.instanceMethod objectInit) (by decide +kernel)) (hts (.code objectInit ⟨#[0xb1]⟩ 1 none) (by decide +kernel)) rfl (by rw [hml]; exact hl.1) rfl dX4_init_1 (Nat.le_of_ble_eq_true rfl) (Nat.le_of_ble_eq_true rfl) ?_
  refine W.eq (g2 := F0 m 4 ls []) rfl ?_
  refine lv_aload_n hx hb dX4_init_4 rfl (lv_at hl 0 rfl) ?_
  refine lv_iconst (v := 1) hx hb dX4_init_5 (by decide) ?_
  refine kk_put hx hb hts hown hE hW g0 rfl hiRX4 tyX4 tyX4_ok nmX4 2 (by decide) (hts (.fieldLink RX4 9 "UndoCellar$Transaction" "active" "Z") (by decide +kernel)) (fun _ h9 => h9) rfl (ty := tyX4 2) (tyX4_ok 2 (by decide)) rfl rfl (Nat.le_of_ble_eq_true rfl) dX4_init_6 (fun H3 locs w1 e2 hW => ?_)
  have f4 := up_s e2
  refine lv_aload_n hx hb dX4_init_9 rfl (lv_at hl 0 rfl) ?_
  refine lv_iconst (v := (-1)) hx hb dX4_init_10 (by decide) ?_
  refine kk_put hx hb hts hown hE hW f4 rfl hiRX4 tyX4 tyX4_ok nmX4 3 (by decide) (hts (.fieldLink RX4 15 "UndoCellar$Transaction" "committedAt" "I") (by decide +kernel)) (fun _ h9 => h9) rfl (ty := tyX4 3) (tyX4_ok 3 (by decide)) rfl rfl (Nat.le_of_ble_eq_true rfl) dX4_init_11 (fun H7 locs w5 e6 hW => ?_)
  have f8 := up_s e6
  refine lv_aload_n hx hb dX4_init_14 rfl (lv_at hl 0 rfl) ?_
  refine lv_iconst (v := 0) hx hb dX4_init_15 (by decide) ?_
  refine kk_put hx hb hts hown hE hW f8 rfl hiRX4 tyX4 tyX4_ok nmX4 4 (by decide) (hts (.fieldLink RX4 19 "UndoCellar$Transaction" "standing" "I") (by decide +kernel)) (fun _ h9 => h9) rfl (ty := tyX4 4) (tyX4_ok 4 (by decide)) rfl rfl (Nat.le_of_ble_eq_true rfl) dX4_init_16 (fun H11 locs w9 e10 hW => ?_)
  have f12 := up_s e10
  refine lv_aload_n hx hb dX4_init_19 rfl (lv_at hl 0 rfl) ?_
  refine lv_iload_n hx hb dX4_init_20 rfl (lv_at hl 1 rfl) ?_
  refine kk_putF hx hb hts hown hE hW f12 rfl hiRX4 tyX4 tyX4_ok nmX4 0 (by decide) (hts (.fieldLink RX4 22 "UndoCellar$Transaction" "number" "I") (by decide +kernel)) (fun _ h9 => h9) rfl hin rfl (ty := tyX4 0) (tyX4_ok 0 (by decide)) rfl rfl (Nat.le_of_ble_eq_true rfl) dX4_init_21 (fun H15 locs w13 e14 hW => ?_)
  have f16 := up_s e14
  refine lv_aload_n hx hb dX4_init_24 rfl (lv_at hl 0 rfl) ?_
  refine lv_iload_n hx hb dX4_init_25 rfl (lv_at hl 2 rfl) ?_
  refine kk_putF hx hb hts hown hE hW f16 rfl hiRX4 tyX4 tyX4_ok nmX4 1 (by decide) (hts (.fieldLink RX4 25 "UndoCellar$Transaction" "beganAt" "I") (by decide +kernel)) (fun _ h9 => h9) rfl hin rfl (ty := tyX4 1) (tyX4_ok 1 (by decide)) rfl rfl (Nat.le_of_ble_eq_true rfl) dX4_init_26 (fun H19 locs w17 e18 hW => ?_)
  have f20 := up_s e18
  exact ke_v hx hb hr hlocks (Nat.le_of_ble_eq_true rfl) (Nat.le_of_ble_eq_true rfl) dX4_init_29 hW (⟨rfl, f20, (fun k h => ((up_n e18 h).trans ((up_n e14 h).trans ((up_n e10 h).trans ((up_n e6 h).trans (up_n e2 h))))))⟩)

set_option maxHeartbeats 4000000 in
set_option maxRecDepth 100000 in
/-- k_X1_init -/
theorem k_X1_init (l : Launch) (D : va_G) (A : Nat → Prop) (ad : Nat → Nat) (w : kWd) (kc : Nat) (kt kr : Nat) (a : Int32) (g0 : w kc = some (.inr (2, [.null, .null, .int 0, .int 0]))) : Met l yX1_init wsX1_init ({ frames := 1, cells := 0, slots := 0, locals := 100 }) (kPc D A [.ref (ad kc), .ref (ad kt), .ref (ad kr), .int a] ad w) (kQv D A (fun ad' w' => ad' = ad ∧ w' kc = some (.inr (2, [.ref (ad kt), .ref (ad kr), .int a, .int 0])) ∧ ∀ k, k ≠ kc → w' k = w k)) 0 0 A := by
  refine Met.ofW (cc := cX1_init) (maxL := 4) (ret := none) (by decide) rfl ?_
  intro p e s m args below meth c s₁ B hml hv
  obtain ⟨rfl, hE, hW0, hI0, hA⟩ := hv
  have hx := B.exec
  have hb := B.bytes
  have hr := B.returns
  have hts := atoms_spec (ws := wsX1_init) B.pre
  have hown : s.vm.findClass RX1 = some m.cls := findClass_of_methodNamed B.named
  have hlocks := B.notSynchronized
  have hin : meth.name = "<init>" := (name_of_methodNamed B.named B.method).1
  have hiRX1 : ∀ w ∈ wsX10, w ∈ wsX1_init := by decide +kernel
  have hW : kS D A s.heap ad w s.heap [] := ⟨hW0, hI0, va_S.rf, hA⟩
  have hl := lv_entry ([.ref (ad kc), .ref (ad kt), .ref (ad kr), .int a]) (n := 4) (Nat.le_of_ble_eq_true rfl)
  rw [lg_entry_eq]
  generalize (lg_sl ([.ref (ad kc), .ref (ad kt), .ref (ad kr), .int a]) ++ List.replicate (4 - (lg_sl ([.ref (ad kc), .ref (ad kt), .ref (ad kr), .int a])).length) Slot.unset).toArray = ls at hl ⊢
  have hl : lv_has ls 4 [(0, .ref (ad kc)), (1, .ref (ad kt)), (2, .ref (ad kr)), (3, .int a)] := hl
  refine lv_aload_n hx hb dX1_init_0 rfl (lv_at hl 0 rfl) ?_
  refine W.objInit hx hb hown (hts (.methodLink RX1 1 objectInit) (by decide +kernel)) (hts (.instanceMethod objectInit) (by decide +kernel)) (hts (.code objectInit ⟨#[0xb1]⟩ 1 none) (by decide +kernel)) rfl (by rw [hml]; exact hl.1) rfl dX1_init_1 (Nat.le_of_ble_eq_true rfl) (Nat.le_of_ble_eq_true rfl) ?_
  refine W.eq (g2 := F0 m 4 ls []) rfl ?_
  refine lv_aload_n hx hb dX1_init_4 rfl (lv_at hl 0 rfl) ?_
  refine lv_iconst (v := 0) hx hb dX1_init_5 (by decide) ?_
  refine kk_put hx hb hts hown hE hW g0 rfl hiRX1 tyX1 tyX1_ok nmX1 3 (by decide) (hts (.fieldLink RX1 7 "UndoCellar$Change" "isVoid" "Z") (by decide +kernel)) (fun _ h9 => h9) rfl (ty := tyX1 3) (tyX1_ok 3 (by decide)) rfl rfl (Nat.le_of_ble_eq_true rfl) dX1_init_6 (fun H3 locs w1 e2 hW => ?_)
  have f4 := up_s e2
  refine lv_aload_n hx hb dX1_init_9 rfl (lv_at hl 0 rfl) ?_
  refine lv_aload_n hx hb dX1_init_10 rfl (lv_at hl 1 rfl) ?_
  refine kk_putF hx hb hts hown hE hW f4 rfl hiRX1 tyX1 tyX1_ok nmX1 0 (by decide) (hts (.fieldLink RX1 13 "UndoCellar$Change" "transaction" "LUndoCellar$Transaction;") (by decide +kernel)) (fun _ h9 => h9) rfl hin rfl (ty := tyX1 0) (tyX1_ok 0 (by decide)) rfl rfl (Nat.le_of_ble_eq_true rfl) dX1_init_11 (fun H7 locs w5 e6 hW => ?_)
  have f8 := up_s e6
  refine lv_aload_n hx hb dX1_init_14 rfl (lv_at hl 0 rfl) ?_
  refine lv_aload_n hx hb dX1_init_15 rfl (lv_at hl 2 rfl) ?_
  refine kk_putF hx hb hts hown hE hW f8 rfl hiRX1 tyX1 tyX1_ok nmX1 1 (by decide) (hts (.fieldLink RX1 17 "UndoCellar$Change" "row" "LUndoCellar$Row;") (by decide +kernel)) (fun _ h9 => h9) rfl hin rfl (ty := tyX1 1) (tyX1_ok 1 (by decide)) rfl rfl (Nat.le_of_ble_eq_true rfl) dX1_init_16 (fun H11 locs w9 e10 hW => ?_)
  have f12 := up_s e10
  refine lv_aload_n hx hb dX1_init_19 rfl (lv_at hl 0 rfl) ?_
  refine lv_iload_n hx hb dX1_init_20 rfl (lv_at hl 3 rfl) ?_
  refine kk_putF hx hb hts hown hE hW f12 rfl hiRX1 tyX1 tyX1_ok nmX1 2 (by decide) (hts (.fieldLink RX1 21 "UndoCellar$Change" "ahead" "I") (by decide +kernel)) (fun _ h9 => h9) rfl hin rfl (ty := tyX1 2) (tyX1_ok 2 (by decide)) rfl rfl (Nat.le_of_ble_eq_true rfl) dX1_init_21 (fun H15 locs w13 e14 hW => ?_)
  have f16 := up_s e14
  exact ke_v hx hb hr hlocks (Nat.le_of_ble_eq_true rfl) (Nat.le_of_ble_eq_true rfl) dX1_init_24 hW (⟨rfl, f16, (fun k h => ((up_n e14 h).trans ((up_n e10 h).trans ((up_n e6 h).trans (up_n e2 h)))))⟩)

set_option maxHeartbeats 4000000 in
set_option maxRecDepth 100000 in
/-- k_X2_init -/
theorem k_X2_init (l : Launch) (D : va_G) (A : Nat → Prop) (ad : Nat → Nat) (w : kWd) (kr : Nat) (kb : Nat) (g0 : w kr = some (.inr (3, [.null, .int 0]))) : Met l yX2_init wsX2_init ({ frames := 1, cells := 0, slots := 0, locals := 100 }) (kPc D A [.ref (ad kr), .ref (ad kb)] ad w) (kQv D A (fun ad' w' => ad' = ad ∧ w' kr = some (.inr (3, [.ref (ad kb), .int 0])) ∧ ∀ k, k ≠ kr → w' k = w k)) 0 0 A := by
  refine Met.ofW (cc := cX2_init) (maxL := 2) (ret := none) (by decide) rfl ?_
  intro p e s m args below meth c s₁ B hml hv
  obtain ⟨rfl, hE, hW0, hI0, hA⟩ := hv
  have hx := B.exec
  have hb := B.bytes
  have hr := B.returns
  have hts := atoms_spec (ws := wsX2_init) B.pre
  have hown : s.vm.findClass RX2 = some m.cls := findClass_of_methodNamed B.named
  have hlocks := B.notSynchronized
  have hin : meth.name = "<init>" := (name_of_methodNamed B.named B.method).1
  have hiRX2 : ∀ w ∈ wsX20, w ∈ wsX2_init := by decide +kernel
  have hW : kS D A s.heap ad w s.heap [] := ⟨hW0, hI0, va_S.rf, hA⟩
  have hl := lv_entry ([.ref (ad kr), .ref (ad kb)]) (n := 2) (Nat.le_of_ble_eq_true rfl)
  rw [lg_entry_eq]
  generalize (lg_sl ([.ref (ad kr), .ref (ad kb)]) ++ List.replicate (2 - (lg_sl ([.ref (ad kr), .ref (ad kb)])).length) Slot.unset).toArray = ls at hl ⊢
  have hl : lv_has ls 2 [(0, .ref (ad kr)), (1, .ref (ad kb))] := hl
  refine lv_aload_n hx hb dX2_init_0 rfl (lv_at hl 0 rfl) ?_
  refine W.objInit hx hb hown (hts (.methodLink RX2 1 objectInit) (by decide +kernel)) (hts (.instanceMethod objectInit) (by decide +kernel)) (hts (.code objectInit ⟨#[0xb1]⟩ 1 none) (by decide +kernel)) rfl (by rw [hml]; exact hl.1) rfl dX2_init_1 (Nat.le_of_ble_eq_true rfl) (Nat.le_of_ble_eq_true rfl) ?_
  refine W.eq (g2 := F0 m 4 ls []) rfl ?_
  refine lv_aload_n hx hb dX2_init_4 rfl (lv_at hl 0 rfl) ?_
  refine lv_iconst (v := 0) hx hb dX2_init_5 (by decide) ?_
  refine kk_put hx hb hts hown hE hW g0 rfl hiRX2 tyX2 tyX2_ok nmX2 1 (by decide) (hts (.fieldLink RX2 7 "UndoCellar$Row" "value" "I") (by decide +kernel)) (fun _ h9 => h9) rfl (ty := tyX2 1) (tyX2_ok 1 (by decide)) rfl rfl (Nat.le_of_ble_eq_true rfl) dX2_init_6 (fun H3 locs w1 e2 hW => ?_)
  have f4 := up_s e2
  refine lv_aload_n hx hb dX2_init_9 rfl (lv_at hl 0 rfl) ?_
  refine lv_aload_n hx hb dX2_init_10 rfl (lv_at hl 1 rfl) ?_
  refine kk_putF hx hb hts hown hE hW f4 rfl hiRX2 tyX2 tyX2_ok nmX2 0 (by decide) (hts (.fieldLink RX2 13 "UndoCellar$Row" "block" "LUndoCellar$Block;") (by decide +kernel)) (fun _ h9 => h9) rfl hin rfl (ty := tyX2 0) (tyX2_ok 0 (by decide)) rfl rfl (Nat.le_of_ble_eq_true rfl) dX2_init_11 (fun H7 locs w5 e6 hW => ?_)
  have f8 := up_s e6
  exact ke_v hx hb hr hlocks (Nat.le_of_ble_eq_true rfl) (Nat.le_of_ble_eq_true rfl) dX2_init_14 hW (⟨rfl, f8, (fun k h => ((up_n e6 h).trans (up_n e2 h)))⟩)

set_option maxHeartbeats 4000000 in
set_option maxRecDepth 100000 in
/-- k_X3_init -/
theorem k_X3_init (l : Launch) (D : va_G) (A : Nat → Prop) (ad : Nat → Nat) (w : kWd) (ks : Nat) (g0 : w ks = some (.inr (4, [.null, .int 0]))) : Met l yX3_init wsX3_init ({ frames := 1, cells := 0, slots := 0, locals := 100 }) (kPc D A [.ref (ad ks)] ad w) (kQv D A (fun ad' w' => ad' = ad ∧ w' ks = some (.inr (4, [.null, .int 0])) ∧ ∀ k, k ≠ ks → w' k = w k)) 0 0 A := by
  refine Met.ofW (cc := cX3_init) (maxL := 1) (ret := none) (by decide) rfl ?_
  intro p e s m args below meth c s₁ B hml hv
  obtain ⟨rfl, hE, hW0, hI0, hA⟩ := hv
  have hx := B.exec
  have hb := B.bytes
  have hr := B.returns
  have hts := atoms_spec (ws := wsX3_init) B.pre
  have hown : s.vm.findClass RX3 = some m.cls := findClass_of_methodNamed B.named
  have hlocks := B.notSynchronized
  have hin : meth.name = "<init>" := (name_of_methodNamed B.named B.method).1
  have hiRX3 : ∀ w ∈ wsX30, w ∈ wsX3_init := by decide +kernel
  have hW : kS D A s.heap ad w s.heap [] := ⟨hW0, hI0, va_S.rf, hA⟩
  have hl := lv_entry ([.ref (ad ks)]) (n := 1) (Nat.le_of_ble_eq_true rfl)
  rw [lg_entry_eq]
  generalize (lg_sl ([.ref (ad ks)]) ++ List.replicate (1 - (lg_sl ([.ref (ad ks)])).length) Slot.unset).toArray = ls at hl ⊢
  have hl : lv_has ls 1 [(0, .ref (ad ks))] := hl
  refine lv_aload_n hx hb dX3_init_0 rfl (lv_at hl 0 rfl) ?_
  refine W.objInit hx hb hown (hts (.methodLink RX3 1 objectInit) (by decide +kernel)) (hts (.instanceMethod objectInit) (by decide +kernel)) (hts (.code objectInit ⟨#[0xb1]⟩ 1 none) (by decide +kernel)) rfl (by rw [hml]; exact hl.1) rfl dX3_init_1 (Nat.le_of_ble_eq_true rfl) (Nat.le_of_ble_eq_true rfl) ?_
  refine W.eq (g2 := F0 m 4 ls []) rfl ?_
  refine lv_aload_n hx hb dX3_init_4 rfl (lv_at hl 0 rfl) ?_
  refine lv_null hx hb dX3_init_5 ?_
  refine kk_put hx hb hts hown hE hW g0 rfl hiRX3 tyX3 tyX3_ok nmX3 0 (by decide) (hts (.fieldLink RX3 7 "UndoCellar$Slot" "holder" "LUndoCellar$Transaction;") (by decide +kernel)) (fun _ h9 => h9) rfl (ty := tyX3 0) (tyX3_ok 0 (by decide)) rfl rfl (Nat.le_of_ble_eq_true rfl) dX3_init_6 (fun H3 locs w1 e2 hW => ?_)
  have f4 := up_s e2
  refine lv_aload_n hx hb dX3_init_9 rfl (lv_at hl 0 rfl) ?_
  refine lv_iconst (v := 0) hx hb dX3_init_10 (by decide) ?_
  refine kk_put hx hb hts hown hE hW f4 rfl hiRX3 tyX3 tyX3_ok nmX3 1 (by decide) (hts (.fieldLink RX3 13 "UndoCellar$Slot" "marked" "Z") (by decide +kernel)) (fun _ h9 => h9) rfl (ty := tyX3 1) (tyX3_ok 1 (by decide)) rfl rfl (Nat.le_of_ble_eq_true rfl) dX3_init_11 (fun H7 locs w5 e6 hW => ?_)
  have f8 := up_s e6
  exact ke_v hx hb hr hlocks (Nat.le_of_ble_eq_true rfl) (Nat.le_of_ble_eq_true rfl) dX3_init_14 hW (⟨rfl, f8, (fun k h => ((up_n e6 h).trans (up_n e2 h)))⟩)

set_option maxHeartbeats 4000000 in
set_option maxRecDepth 100000 in
/-- k_X3_give -/
theorem k_X3_give (l : Launch) (D : va_G) (A : Nat → Prop) (ad : Nat → Nat) (w : kWd) (S : St) (nT nC nD nM nZ : Nat) (hC : CW D S ad w nT nC) (hN : SN S nT nC nD nM nZ) (i : Nat) (hi : i < 6) (u : Nat) (hu : u < nT) : Met l yX3_give wsX3_give ({ frames := 0, cells := 0, slots := 0, locals := 0 }) (kPc D A [.ref (ad (16 + i)), .ref (ad (tkey u))] ad w) (kQv D A (fun ad' w' => ad' = ad ∧ CW D (sA (sA S 8 i (nI u)) 9 i 0) ad w' nT nC ∧ FrC ad w ad w')) 0 0 A := by
  refine Met.ofW (cc := cX3_give) (maxL := 2) (ret := none) (by decide) rfl ?_
  intro p e s m args below meth c s₁ B hml hv
  obtain ⟨rfl, hE, hW0, hI0, hA⟩ := hv
  have hx := B.exec
  have hb := B.bytes
  have hr := B.returns
  have hts := atoms_spec (ws := wsX3_give) B.pre
  have hown : s.vm.findClass RX3 = some m.cls := findClass_of_methodNamed B.named
  have hlocks := B.notSynchronized
  have hiRX3 : ∀ w ∈ wsX30, w ∈ wsX3_give := by decide +kernel
  have hW : kS D A s.heap ad w s.heap [] := ⟨hW0, hI0, va_S.rf, hA⟩
  have hl := lv_entry ([.ref (ad (16 + i)), .ref (ad (tkey u))]) (n := 2) (Nat.le_of_ble_eq_true rfl)
  rw [lg_entry_eq]
  generalize (lg_sl ([.ref (ad (16 + i)), .ref (ad (tkey u))]) ++ List.replicate (2 - (lg_sl ([.ref (ad (16 + i)), .ref (ad (tkey u))])).length) Slot.unset).toArray = ls at hl ⊢
  have hl : lv_has ls 2 [(0, .ref (ad (16 + i))), (1, .ref (ad (tkey u)))] := hl
  have h60 := hN.2.2.2.2.2.1
  refine lv_aload_n hx hb dX3_give_0 rfl (lv_at hl 0 rfl) ?_
  refine lv_aload_n hx hb dX3_give_1 rfl (lv_at hl 1 rfl) ?_
  refine kk_put hx hb hts hown hE hW (hC.s hi) rfl hiRX3 tyX3 tyX3_ok nmX3 0 (by decide) (hts (.fieldLink RX3 7 "UndoCellar$Slot" "holder" "LUndoCellar$Transaction;") (by decide +kernel)) (fun _ h9 => h9) rfl (ty := tyX3 0) (tyX3_ok 0 (by decide)) rfl rfl (Nat.le_of_ble_eq_true rfl) dX3_give_2 (fun H3 locs w1 e2 hW => ?_)
  have f4 := up_s e2
  refine lv_aload_n hx hb dX3_give_5 rfl (lv_at hl 0 rfl) ?_
  refine lv_iconst (v := 0) hx hb dX3_give_6 (by decide) ?_
  refine kk_put hx hb hts hown hE hW f4 rfl hiRX3 tyX3 tyX3_ok nmX3 1 (by decide) (hts (.fieldLink RX3 13 "UndoCellar$Slot" "marked" "Z") (by decide +kernel)) (fun _ h9 => h9) rfl (ty := tyX3 1) (tyX3_ok 1 (by decide)) rfl rfl (Nat.le_of_ble_eq_true rfl) dX3_give_7 (fun H7 locs w5 e6 hW => ?_)
  have f8 := up_s e6
  have he := e6
  rw [e2, va_up_up] at he
  have hC := hC.upS (S' := sA (sA S 8 i (nI u)) 9 i 0) hi (he.trans (by
    show va_up _ _ (some (.inr (4, [.ref (ad (tkey u)), .int 0])) : Option va_E) = va_up _ _ (some (.inr (4, [va_rf (hold ad (sA (sA S 8 i (nI u)) 9 i 0) i), .int (upd (S 9) i 0 i)])) : Option va_E)
    rw [upd_s, hold_s (S := sA (sA S 8 i (nI u)) 9 i 0) (t := u) (show upd (S 8) i (nI u) i = nI u from upd_s) (by omega)]
    rfl)) (fun _ h => upd_n h) (fun _ h => upd_n h) (fun _ h8 h9 => (sU_n h9).trans (sU_n h8))
  exact ke_v hx hb hr hlocks (Nat.le_of_ble_eq_true rfl) (Nat.le_of_ble_eq_true rfl) dX3_give_10 hW (⟨rfl, hC, (FrC.rf.up e2 (by omega)).up e6 (by omega)⟩)

set_option maxHeartbeats 4000000 in
set_option maxRecDepth 100000 in
/-- k_X1_make -/
theorem k_X1_make (l : Launch) (D : va_G) (A : Nat → Prop) (ad : Nat → Nat) (w : kWd) (kc kr kt kb : Nat) (a z v0 x t0 t1 t2 t3 t4 : Int32) (h1 : kr ≠ kt) (h2 : kc ≠ kr) (h3 : kc ≠ kt) (g1 : w kc = some (.inr (2, [.ref (ad kt), .ref (ad kr), .int a, .int z]))) (g2 : w kr = some (.inr (3, [.ref (ad kb), .int v0]))) (g3 : w kt = some (.inr (5, [.int t0, .int t1, .int t2, .int t3, .int t4]))) : Met l yX1_make wsX1_make ({ frames := 0, cells := 0, slots := 0, locals := 0 }) (kPc D A [.ref (ad kc), .int x] ad w) (kQv D A (fun ad' w' => ad' = ad ∧ w' = va_up (va_up w kr (some (.inr (3, [.ref (ad kb), .int x])))) kt (some (.inr (5, [.int t0, .int t1, .int t2, .int t3, .int (t4 + 1)]))))) 0 0 A := by
  refine Met.ofW (cc := cX1_make) (maxL := 2) (ret := none) (by decide) rfl ?_
  intro p e s m args below meth c s₁ B hml hv
  obtain ⟨rfl, hE, hW0, hI0, hA⟩ := hv
  have hx := B.exec
  have hb := B.bytes
  have hr := B.returns
  have hts := atoms_spec (ws := wsX1_make) B.pre
  have hown : s.vm.findClass RX1 = some m.cls := findClass_of_methodNamed B.named
  have hlocks := B.notSynchronized
  have hiRX1 : ∀ w ∈ wsX10, w ∈ wsX1_make := by decide +kernel
  have hiRX2 : ∀ w ∈ wsX20, w ∈ wsX1_make := by decide +kernel
  have hiRX4 : ∀ w ∈ wsX40, w ∈ wsX1_make := by decide +kernel
  have hW : kS D A s.heap ad w s.heap [] := ⟨hW0, hI0, va_S.rf, hA⟩
  have hl := lv_entry ([.ref (ad kc), .int x]) (n := 2) (Nat.le_of_ble_eq_true rfl)
  rw [lg_entry_eq]
  generalize (lg_sl ([.ref (ad kc), .int x]) ++ List.replicate (2 - (lg_sl ([.ref (ad kc), .int x])).length) Slot.unset).toArray = ls at hl ⊢
  have hl : lv_has ls 2 [(0, .ref (ad kc)), (1, .int x)] := hl
  refine lv_aload_n hx hb dX1_make_0 rfl (lv_at hl 0 rfl) ?_
  refine kk_get hx hb hts hown hE hW g1 rfl hiRX1 1 (by decide) (hts (.fieldLink RX1 17 "UndoCellar$Change" "row" "LUndoCellar$Row;") (by decide +kernel)) (fun _ h9 => h9) rfl dX1_make_1 ?_
  refine lv_iload_n hx hb dX1_make_4 rfl (lv_at hl 1 rfl) ?_
  refine kk_putN hx hb hts hown hE hW g2 rfl hiRX2 tyX2 tyX2_ok nmX2 1 (by decide) (hE.N 6 rfl) (fun _ h9 => h9) rfl (ty := tyX2 1) (tyX2_ok 1 (by decide)) rfl rfl (Nat.le_of_ble_eq_true rfl) dX1_make_5 (fun H3 locs w1 e2 hW => ?_)
  have f4 := (up_n e2 h2).trans g1
  have f5 := (up_n e2 (Ne.symm h1)).trans g3
  have f6 := up_s e2
  refine lv_aload_n hx hb dX1_make_8 rfl (lv_at hl 0 rfl) ?_
  refine kk_get hx hb hts hown hE hW f4 rfl hiRX1 0 (by decide) (hts (.fieldLink RX1 13 "UndoCellar$Change" "transaction" "LUndoCellar$Transaction;") (by decide +kernel)) (fun _ h9 => h9) rfl dX1_make_9 ?_
  refine lv_dup hx hb dX1_make_12 rfl ?_
  refine kk_getN hx hb hts hown hE hW f5 rfl hiRX4 4 (by decide) (hE.N 13 rfl) (fun _ h9 => h9) rfl dX1_make_13 ?_
  refine lv_iconst (v := 1) hx hb dX1_make_16 (by decide) ?_
  refine lv_iadd hx hb dX1_make_17 ?_
  refine kk_putN hx hb hts hown hE hW f5 rfl hiRX4 tyX4 tyX4_ok nmX4 4 (by decide) (hE.N 13 rfl) (fun _ h9 => h9) rfl (ty := tyX4 4) (tyX4_ok 4 (by decide)) rfl rfl (Nat.le_of_ble_eq_true rfl) dX1_make_18 (fun H9 locs w7 e8 hW => ?_)
  have f10 := (up_n e8 h3).trans f4
  have f11 := (up_n e8 h1).trans f6
  have f12 := up_s e8
  exact ke_v hx hb hr hlocks (Nat.le_of_ble_eq_true rfl) (Nat.le_of_ble_eq_true rfl) dX1_make_21 hW (⟨rfl, by rw [e8, e2]; rfl⟩)

set_option maxHeartbeats 4000000 in
set_option maxRecDepth 100000 in
/-- c_inA -/
theorem c_inA (l : Launch) (D : va_G) (A : Nat → Prop) (ad : Nat → Nat) (w : kWd) (kl : Nat) (e0 : Value) (mc sz : Int32) (g0 : w kl = some (.inr (0, [.int mc, e0, .int sz]))) : Met l yJxa1e45_init_da8c8 wsJxa1e45_init_da8c8 ({ frames := 2, cells := 0, slots := 0, locals := 150 }) (kPc D A [.ref (ad kl)] ad w) (kQv D A (fun ad' w' => ad' = ad ∧ w' kl = some (.inr (0, [.int mc, e0, .int sz])) ∧ ∀ k, k ≠ kl → w' k = w k)) 0 0 A := by
  refine Met.ofW (cc := cJxa1e45_init_da8c8) (maxL := 1) (ret := none) (by decide) rfl ?_
  intro p e s m args below meth c s₁ B hml hv
  obtain ⟨rfl, hE, hW0, hI0, hA⟩ := hv
  have hx := B.exec
  have hb := B.bytes
  have hr := B.returns
  have hts := atoms_spec (ws := wsJxa1e45_init_da8c8) B.pre
  have hown : s.vm.findClass RJxa1e45 = some m.cls := findClass_of_methodNamed B.named
  have hlocks := B.notSynchronized
  have hW : kS D A s.heap ad w s.heap [] := ⟨hW0, hI0, va_S.rf, hA⟩
  have hl := lv_entry ([.ref (ad kl)]) (n := 1) (Nat.le_of_ble_eq_true rfl)
  rw [lg_entry_eq]
  generalize (lg_sl ([.ref (ad kl)]) ++ List.replicate (1 - (lg_sl ([.ref (ad kl)])).length) Slot.unset).toArray = ls at hl ⊢
  have hl : lv_has ls 1 [(0, .ref (ad kl))] := hl
  refine lv_aload_n hx hb dJxa1e45_init_da8c8_0 rfl (lv_at hl 0 rfl) ?_
  refine W.objInit hx hb hown (hts (.methodLink RJxa1e45 1 objectInit) (by decide +kernel)) (hts (.instanceMethod objectInit) (by decide +kernel)) (hts (.code objectInit ⟨#[0xb1]⟩ 1 none) (by decide +kernel)) rfl (by rw [hml]; exact hl.1) rfl dJxa1e45_init_da8c8_1 (Nat.le_of_ble_eq_true rfl) (Nat.le_of_ble_eq_true rfl) ?_
  refine W.eq (g2 := F0 m 4 ls []) rfl ?_
  exact ke_v hx hb hr hlocks (Nat.le_of_ble_eq_true rfl) (Nat.le_of_ble_eq_true rfl) dJxa1e45_init_da8c8_4 hW (⟨rfl, g0, fun _ _ => rfl⟩)

set_option maxHeartbeats 4000000 in
set_option maxRecDepth 100000 in
/-- c_inL -/
theorem c_inL (l : Launch) (D : va_G) (A : Nat → Prop) (ad : Nat → Nat) (w : kWd) (kl : Nat) (e0 : Value) (mc sz : Int32) (g0 : w kl = some (.inr (0, [.int mc, e0, .int sz]))) : Met l yJxc12de_init_da8c8 wsJxc12de_init_da8c8 ({ frames := 3, cells := 0, slots := 0, locals := 170 }) (kPc D A [.ref (ad kl)] ad w) (kQv D A (fun ad' w' => ad' = ad ∧ w' kl = some (.inr (0, [.int 0, e0, .int sz])) ∧ ∀ k, k ≠ kl → w' k = w k)) 0 0 A := by
  refine Met.ofW (cc := cJxc12de_init_da8c8) (maxL := 1) (ret := none) (by decide) rfl ?_
  intro p e s m args below meth c s₁ B hml hv
  obtain ⟨rfl, hE, hW0, hI0, hA⟩ := hv
  have hx := B.exec
  have hb := B.bytes
  have hr := B.returns
  have hts := atoms_spec (ws := wsJxc12de_init_da8c8) B.pre
  have hown : s.vm.findClass RJxc12de = some m.cls := findClass_of_methodNamed B.named
  have hlocks := B.notSynchronized
  have hiRJx4a65c : ∀ w ∈ wsJx4a65c0, w ∈ wsJxc12de_init_da8c8 := by decide +kernel
  have hW : kS D A s.heap ad w s.heap [] := ⟨hW0, hI0, va_S.rf, hA⟩
  have hl := lv_entry ([.ref (ad kl)]) (n := 1) (Nat.le_of_ble_eq_true rfl)
  rw [lg_entry_eq]
  generalize (lg_sl ([.ref (ad kl)]) ++ List.replicate (1 - (lg_sl ([.ref (ad kl)])).length) Slot.unset).toArray = ls at hl ⊢
  have hl : lv_has ls 1 [(0, .ref (ad kl))] := hl
  refine lv_aload_n hx hb dJxc12de_init_da8c8_0 rfl (lv_at hl 0 rfl) ?_
  refine kk_v (va_runI (As := []) (rest := []) ⟨hx, hb, hml, hown, hts⟩ (c_inA l D A ad w kl e0 mc sz g0) (cwI 0 hts gJxc12de_init_da8c8_Jxa1e45_init_da8c8 rfl rfl rfl (hts (.initialized RJxa1e45) (by decide +kernel)) (hts (.methodLink RJxc12de 1 yJxa1e45_init_da8c8) (by decide +kernel)) (hts (.instanceMethod yJxa1e45_init_da8c8) (by decide +kernel)) rfl (by decide +kernel) ⟨Nat.le_of_ble_eq_true rfl, Nat.le_of_ble_eq_true rfl⟩) (kSt hE hW _) rfl rfl hl.1 rfl (lv_room (Nat.le_of_ble_eq_true rfl)) dJxc12de_init_da8c8_1 ⟨Nat.le_of_ble_eq_true rfl, Nat.le_of_ble_eq_true rfl⟩) hW (fun ad1 w2 H5 locs hp3 hW => ?_)
  obtain ⟨e2, g1, f1⟩ := hp3
  rw [e2] at hW
  refine lv_aload_n hx hb dJxc12de_init_da8c8_4 rfl (lv_at hl 0 rfl) ?_
  refine lv_iconst (v := 0) hx hb dJxc12de_init_da8c8_5 (by decide) ?_
  refine kk_put hx hb hts hown hE hW g1 rfl hiRJx4a65c tyJx4a65c tyJx4a65c_ok nmJx4a65c 0 (by decide) (hts (.fieldLink RJxc12de 7 "java/util/AbstractList" "modCount" "I") (by decide +kernel)) (fun _ h9 => h9) rfl (ty := tyJx4a65c 0) (tyJx4a65c_ok 0 (by decide)) rfl rfl (Nat.le_of_ble_eq_true rfl) dJxc12de_init_da8c8_6 (fun H8 locs w6 e7 hW => ?_)
  have f9 := up_s e7
  exact ke_v hx hb hr hlocks (Nat.le_of_ble_eq_true rfl) (Nat.le_of_ble_eq_true rfl) dJxc12de_init_da8c8_9 hW (⟨rfl, f9, fun k h => (up_n e7 h).trans (f1 k h)⟩)

set_option maxHeartbeats 4000000 in
set_option maxRecDepth 100000 in
/-- c_inAL -/
theorem c_inAL (l : Launch) (D : va_G) (A : Nat → Prop) (ad : Nat → Nat) (w : kWd) (kl : Nat) (e0 : Value) (mc sz : Int32) (g0 : w kl = some (.inr (0, [.int mc, e0, .int sz]))) : Met l yJx4a65c_init_da8c8 wsJx4a65c_init_da8c8 ({ frames := 4, cells := 0, slots := 0, locals := 190 }) (kPc D A [.ref (ad kl)] ad w) (kQv D A (fun ad' w' => ad' = ad ∧ w' kl = some (.inr (0, [.int 0, .ref (D.2 999 0), .int sz])) ∧ ∀ k, k ≠ kl → w' k = w k)) 0 0 A := by
  refine Met.ofW (cc := cJx4a65c_init_da8c8) (maxL := 1) (ret := none) (by decide) rfl ?_
  intro p e s m args below meth c s₁ B hml hv
  obtain ⟨rfl, hE, hW0, hI0, hA⟩ := hv
  have hx := B.exec
  have hb := B.bytes
  have hr := B.returns
  have hts := atoms_spec (ws := wsJx4a65c_init_da8c8) B.pre
  have hown : s.vm.findClass RJx4a65c = some m.cls := findClass_of_methodNamed B.named
  have hlocks := B.notSynchronized
  have hiRJx4a65c : ∀ w ∈ wsJx4a65c0, w ∈ wsJx4a65c_init_da8c8 := by decide +kernel
  have hW : kS D A s.heap ad w s.heap [] := ⟨hW0, hI0, va_S.rf, hA⟩
  have hl := lv_entry ([.ref (ad kl)]) (n := 1) (Nat.le_of_ble_eq_true rfl)
  rw [lg_entry_eq]
  generalize (lg_sl ([.ref (ad kl)]) ++ List.replicate (1 - (lg_sl ([.ref (ad kl)])).length) Slot.unset).toArray = ls at hl ⊢
  have hl : lv_has ls 1 [(0, .ref (ad kl))] := hl
  refine lv_aload_n hx hb dJx4a65c_init_da8c8_0 rfl (lv_at hl 0 rfl) ?_
  refine kk_v (va_runI (As := []) (rest := []) ⟨hx, hb, hml, hown, hts⟩ (c_inL l D A ad w kl e0 mc sz g0) (cwI 0 hts gJx4a65c_init_da8c8_Jxc12de_init_da8c8 rfl rfl rfl (hts (.initialized RJxc12de) (by decide +kernel)) (hts (.methodLink RJx4a65c 1 yJxc12de_init_da8c8) (by decide +kernel)) (hts (.instanceMethod yJxc12de_init_da8c8) (by decide +kernel)) rfl (by decide +kernel) ⟨Nat.le_of_ble_eq_true rfl, Nat.le_of_ble_eq_true rfl⟩) (kSt hE hW _) rfl rfl hl.1 rfl (lv_room (Nat.le_of_ble_eq_true rfl)) dJx4a65c_init_da8c8_1 ⟨Nat.le_of_ble_eq_true rfl, Nat.le_of_ble_eq_true rfl⟩) hW (fun ad1 w2 H5 locs hp3 hW => ?_)
  obtain ⟨e2, g1, f1⟩ := hp3
  rw [e2] at hW
  refine lv_aload_n hx hb dJx4a65c_init_da8c8_4 rfl (lv_at hl 0 rfl) ?_
  refine va_gets hx hb hE.2.2.2.1 hW.2.2.1 hown (hts (.fieldLink RJx4a65c 39 "java/util/ArrayList" "DEFAULTCAPACITY_EMPTY_ELEMENTDATA" "[Ljava/lang/Object;") (by decide +kernel)) (fun _ h9 => h9) dJx4a65c_init_da8c8_5 ?_
  refine kk_put hx hb hts hown hE hW g1 rfl hiRJx4a65c tyJx4a65c tyJx4a65c_ok nmJx4a65c 1 (by decide) (hts (.fieldLink RJx4a65c 9 "java/util/ArrayList" "elementData" "[Ljava/lang/Object;") (by decide +kernel)) (fun _ h9 => h9) rfl (ty := tyJx4a65c 1) (tyJx4a65c_ok 1 (by decide)) rfl rfl (Nat.le_of_ble_eq_true rfl) dJx4a65c_init_da8c8_8 (fun H8 locs w6 e7 hW => ?_)
  have f9 := up_s e7
  exact ke_v hx hb hr hlocks (Nat.le_of_ble_eq_true rfl) (Nat.le_of_ble_eq_true rfl) dJx4a65c_init_da8c8_11 hW (⟨rfl, f9, fun k h => (up_n e7 h).trans (f1 k h)⟩)

