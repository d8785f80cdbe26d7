/-! ArrayList and what it calls -/
def LX (D : va_G) (kl ka n : Nat) (key : Nat → Nat) (ad : Nat → Nat) (w : kWd) (mc : Int32) (cap : Nat) (f : Nat → Option Nat) (e : Nat) : Prop := w kl = some (.inr (0, [.int mc, .ref e, .int (nI n)])) ∧ n ≤ cap ∧ cap ≤ 10 + 2 * n ∧ ((cap = 0 ∧ e = D.2 999 0) ∨ (2 ≤ cap ∧ e = ad ka ∧ w ka = some (.inl (D.1 106, cap, .inr (.inr (.inr (.inr f))))))) ∧ ∀ i, i < n → f i = some (ad (key i))
def AL (D : va_G) (kl ka n : Nat) (key : Nat → Nat) (ad : Nat → Nat) (w : kWd) : Prop := ∃ (mc : Int32) (cap : Nat) (f : Nat → Option Nat) (e : Nat), LX D kl ka n key ad w mc cap f e
def FrL (kl ka : Nat) (ad0 : Nat → Nat) (w0 : kWd) (ad : Nat → Nat) (w : kWd) : Prop := (∀ k, k ≠ kl → k ≠ ka → k ≠ 7 → w k = w0 k) ∧ ∀ k, k ≠ ka → k ≠ 7 → ad k = ad0 k
abbrev qA (D : va_G) (n : Nat) (f : Nat → Option Nat) : Option va_E := some (.inl (D.1 106, n, .inr (.inr (.inr (.inr f)))))
set_option maxHeartbeats 4000000 in
set_option maxRecDepth 100000 in
/-- c_chk3 -/
theorem c_chk3 (l : Launch) (D : va_G) (A : Nat → Prop) (ad : Nat → Nat) (w : kWd) (i n : Nat) (hi : i < n) (hn : n < 2 ^ 31) : Met l yJ3_checkIndex_8e157 wsJ3_checkIndex_8e157 ({ frames := 0, cells := 0, slots := 0, locals := 0 }) (kPc D A [.int (nI i), .int (nI n), .null] ad w) (kQi D A (fun v ad' w' => v = nI i ∧ ad' = ad ∧ w' = w)) 0 0 A := by
  refine Met.ofW (cc := cJ3_checkIndex_8e157) (maxL := 3) (ret := (some (.int))) (by decide) rfl ?_
  intro p e s m args below meth c s₁ B hml hv
  obtain ⟨rfl, hE, hW0, hI0, hA⟩ := hv
  have hx := B.exec
  have hb := B.bytes
  have hr := B.returns
  have hts := atoms_spec (ws := wsJ3_checkIndex_8e157) B.pre
  have hown : s.vm.findClass RJ3 = some m.cls := findClass_of_methodNamed B.named
  have hlocks := B.notSynchronized
  have hW : kS D A s.heap ad w s.heap [] := ⟨hW0, hI0, va_S.rf, hA⟩
  have hl := lv_entry ([.int (nI i), .int (nI n), .null]) (n := 3) (Nat.le_of_ble_eq_true rfl)
  rw [lg_entry_eq]
  generalize (lg_sl ([.int (nI i), .int (nI n), .null]) ++ List.replicate (3 - (lg_sl ([.int (nI i), .int (nI n), .null])).length) Slot.unset).toArray = ls at hl ⊢
  have hl : lv_has ls 3 [(0, .int (nI i)), (1, .int (nI n)), (2, .null)] := hl
  refine lv_iload_n hx hb dJ3_checkIndex_8e157_0 rfl (lv_at hl 0 rfl) ?_
  refine lv_if_lt (tgt := 9) hx hb dJ3_checkIndex_8e157_1 (by decide) (fun c9 => absurd c9 (nI_pos (by omega))) (fun _ => ?_)
  refine lv_iload_n hx hb dJ3_checkIndex_8e157_4 rfl (lv_at hl 0 rfl) ?_
  refine lv_iload_n hx hb dJ3_checkIndex_8e157_5 rfl (lv_at hl 1 rfl) ?_
  refine lv_icmp_lt (tgt := 16) hx hb dJ3_checkIndex_8e157_6 (by decide) (fun _ => ?_) (fun c9 => absurd (nI_lt hi hn) c9)
  refine lv_iload_n hx hb dJ3_checkIndex_8e157_16 rfl (lv_at hl 0 rfl) ?_
  exact ke_i hx hb hr hlocks (Nat.le_of_ble_eq_true rfl) (Nat.le_of_ble_eq_true rfl) dJ3_checkIndex_8e157_17 hW (⟨rfl, rfl, rfl⟩)

set_option maxHeartbeats 4000000 in
set_option maxRecDepth 100000 in
/-- c_chk -/
theorem c_chk (l : Launch) (D : va_G) (A : Nat → Prop) (ad : Nat → Nat) (w : kWd) (i n : Nat) (hi : i < n) (hn : n < 2 ^ 31) : Met l yJ15_checkIndex_7cf53 wsJ15_checkIndex_7cf53 ({ frames := 1, cells := 0, slots := 0, locals := 22 }) (kPc D A [.int (nI i), .int (nI n)] ad w) (kQi D A (fun v ad' w' => v = nI i ∧ ad' = ad ∧ w' = w)) 0 0 A := by
  refine Met.ofW (cc := cJ15_checkIndex_7cf53) (maxL := 2) (ret := (some (.int))) (by decide) rfl ?_
  intro p e s m args below meth c s₁ B hml hv
  obtain ⟨rfl, hE, hW0, hI0, hA⟩ := hv
  have hx := B.exec
  have hb := B.bytes
  have hr := B.returns
  have hts := atoms_spec (ws := wsJ15_checkIndex_7cf53) B.pre
  have hown : s.vm.findClass RJ15 = some m.cls := findClass_of_methodNamed B.named
  have hlocks := B.notSynchronized
  have hW : kS D A s.heap ad w s.heap [] := ⟨hW0, hI0, va_S.rf, hA⟩
  have hl := lv_entry ([.int (nI i), .int (nI n)]) (n := 2) (Nat.le_of_ble_eq_true rfl)
  rw [lg_entry_eq]
  generalize (lg_sl ([.int (nI i), .int (nI n)]) ++ List.replicate (2 - (lg_sl ([.int (nI i), .int (nI n)])).length) Slot.unset).toArray = ls at hl ⊢
  have hl : lv_has ls 2 [(0, .int (nI i)), (1, .int (nI n))] := hl
  refine lv_iload_n hx hb dJ15_checkIndex_7cf53_0 rfl (lv_at hl 0 rfl) ?_
  refine lv_iload_n hx hb dJ15_checkIndex_7cf53_1 rfl (lv_at hl 1 rfl) ?_
  refine lv_null hx hb dJ15_checkIndex_7cf53_2 ?_
  refine kk_i (va_runS (As := [.int (nI i), .int (nI n), .null]) (rest := []) ⟨hx, hb, hml, hown, hts⟩ (c_chk3 l D A ad w i n hi hn) (va_cwS 3 hts gJ15_checkIndex_7cf53_J3_checkIndex_8e157 rfl rfl rfl (by decide +kernel) ⟨Nat.le_of_ble_eq_true rfl, Nat.le_of_ble_eq_true rfl⟩) (kSt hE hW _) rfl rfl hl.1 rfl (lv_room (Nat.le_of_ble_eq_true rfl)) dJ15_checkIndex_7cf53_3 ⟨Nat.le_of_ble_eq_true rfl, Nat.le_of_ble_eq_true rfl⟩) hW (fun r4 ad1 w2 H5 locs hp3 hW => ?_)
  obtain ⟨e1, e2, e3⟩ := hp3
  rw [e2, e3] at hW
  subst e1
  exact ke_i hx hb hr hlocks (Nat.le_of_ble_eq_true rfl) (Nat.le_of_ble_eq_true rfl) dJ15_checkIndex_7cf53_6 hW (⟨rfl, rfl, rfl⟩)

set_option maxHeartbeats 4000000 in
set_option maxRecDepth 100000 in
/-- c_size -/
theorem c_size (l : Launch) (D : va_G) (A : Nat → Prop) (ad : Nat → Nat) (w : kWd) (kl ka n : Nat) (key : Nat → Nat) (hA9 : AL D kl ka n key ad w) : Met l yJx4a65c_size_8abf5 wsJx4a65c_size_8abf5 ({ frames := 0, cells := 0, slots := 0, locals := 0 }) (kPc D A [.ref (ad kl)] ad w) (kQi D A (fun v ad' w' => v = nI n ∧ ad' = ad ∧ w' = w)) 0 0 A := by
  refine Met.ofW (cc := cJx4a65c_size_8abf5) (maxL := 1) (ret := (some (.int))) (by decide) rfl ?_
  intro p e s m args below meth c s₁ B hml hv
  obtain ⟨rfl, hE, hW0, hI0, hA⟩ := hv
  have hx := B.exec
  have hb := B.bytes
  have hr := B.returns
  have hts := atoms_spec (ws := wsJx4a65c_size_8abf5) B.pre
  have hown : s.vm.findClass RJx4a65c = some m.cls := findClass_of_methodNamed B.named
  have hlocks := B.notSynchronized
  have hiRJx4a65c : ∀ w ∈ wsJx4a65c0, w ∈ wsJx4a65c_size_8abf5 := by decide +kernel
  have hW : kS D A s.heap ad w s.heap [] := ⟨hW0, hI0, va_S.rf, hA⟩
  have hl := lv_entry ([.ref (ad kl)]) (n := 1) (Nat.le_of_ble_eq_true rfl)
  rw [lg_entry_eq]
  generalize (lg_sl ([.ref (ad kl)]) ++ List.replicate (1 - (lg_sl ([.ref (ad kl)])).length) Slot.unset).toArray = ls at hl ⊢
  have hl : lv_has ls 1 [(0, .ref (ad kl))] := hl
  obtain ⟨mc, cap, f, e0, h1, -⟩ := hA9
  refine lv_aload_n hx hb dJx4a65c_size_8abf5_0 rfl (lv_at hl 0 rfl) ?_
  refine kk_get hx hb hts hown hE hW h1 rfl hiRJx4a65c 2 (by decide) (hts (.fieldLink RJx4a65c 48 "java/util/ArrayList" "size" "I") (by decide +kernel)) (fun _ h9 => h9) rfl dJx4a65c_size_8abf5_1 ?_
  exact ke_i hx hb hr hlocks (Nat.le_of_ble_eq_true rfl) (Nat.le_of_ble_eq_true rfl) dJx4a65c_size_8abf5_4 hW (⟨rfl, rfl, rfl⟩)

set_option maxHeartbeats 4000000 in
set_option maxRecDepth 100000 in
/-- c_elem -/
theorem c_elem (l : Launch) (D : va_G) (A : Nat → Prop) (ad : Nat → Nat) (w : kWd) (kl ka n : Nat) (key : Nat → Nat) (hA9 : AL D kl ka n key ad w) (hc9 : n ≤ 600) (i : Nat) (hi : i < n) : Met l yJx4a65c_elementData_915e3 wsJx4a65c_elementData_915e3 ({ frames := 0, cells := 0, slots := 0, locals := 0 }) (kPc D A [.ref (ad kl), .int (nI i)] ad w) (kQq D A (fun v ad' w' => v = some (ad (key i)) ∧ ad' = ad ∧ w' = w)) 0 0 A := by
  refine Met.ofW (cc := cJx4a65c_elementData_915e3) (maxL := 2) (ret := (some (.object "java/lang/Object"))) (by decide) rfl ?_
  intro p e s m args below meth c s₁ B hml hv
  obtain ⟨rfl, hE, hW0, hI0, hA⟩ := hv
  have hx := B.exec
  have hb := B.bytes
  have hr := B.returns
  have hts := atoms_spec (ws := wsJx4a65c_elementData_915e3) B.pre
  have hown : s.vm.findClass RJx4a65c = some m.cls := findClass_of_methodNamed B.named
  have hlocks := B.notSynchronized
  have hiRJx4a65c : ∀ w ∈ wsJx4a65c0, w ∈ wsJx4a65c_elementData_915e3 := by decide +kernel
  have hW : kS D A s.heap ad w s.heap [] := ⟨hW0, hI0, va_S.rf, hA⟩
  have hl := lv_entry ([.ref (ad kl), .int (nI i)]) (n := 2) (Nat.le_of_ble_eq_true rfl)
  rw [lg_entry_eq]
  generalize (lg_sl ([.ref (ad kl), .int (nI i)]) ++ List.replicate (2 - (lg_sl ([.ref (ad kl), .int (nI i)])).length) Slot.unset).toArray = ls at hl ⊢
  have hl : lv_has ls 2 [(0, .ref (ad kl)), (1, .int (nI i))] := hl
  obtain ⟨mc, cap, f, e0, h1, h2, h3, h4, h5⟩ := hA9
  rcases h4 with ⟨h4, -⟩ | ⟨h4, rfl, h6⟩
  · omega
  refine lv_aload_n hx hb dJx4a65c_elementData_915e3_0 rfl (lv_at hl 0 rfl) ?_
  refine kk_get hx hb hts hown hE hW h1 rfl hiRJx4a65c 1 (by decide) (hts (.fieldLink RJx4a65c 9 "java/util/ArrayList" "elementData" "[Ljava/lang/Object;") (by decide +kernel)) (fun _ h9 => h9) rfl dJx4a65c_elementData_915e3_1 ?_
  refine lv_iload_n hx hb dJx4a65c_elementData_915e3_4 rfl (lv_at hl 1 rfl) ?_
  refine kk_aald hx hb hE hW 6 rfl h6 (vp_in_nI (show i < cap by omega) (by omega)) (v := .ref (ad (key i))) (by rw [nI_clamp (by omega), h5 i hi]; rfl) dJx4a65c_elementData_915e3_5 ?_
  exact ke_q hx hb hr (Or.inl ⟨_, rfl⟩) hlocks (Nat.le_of_ble_eq_true rfl) (Nat.le_of_ble_eq_true rfl) dJx4a65c_elementData_915e3_6 rfl hW (⟨rfl, rfl, rfl⟩)

set_option maxHeartbeats 4000000 in
set_option maxRecDepth 100000 in
/-- c_get -/
theorem c_get (l : Launch) (D : va_G) (A : Nat → Prop) (ad : Nat → Nat) (w : kWd) (kl ka n : Nat) (key : Nat → Nat) (hA9 : AL D kl ka n key ad w) (hc9 : n ≤ 600) (i : Nat) (hi : i < n) : Met l yJx4a65c_get_915e3 wsJx4a65c_get_915e3 ({ frames := 2, cells := 0, slots := 0, locals := 43 }) (kPc D A [.ref (ad kl), .int (nI i)] ad w) (kQq D A (fun v ad' w' => v = some (ad (key i)) ∧ ad' = ad ∧ w' = w)) 0 0 A := by
  refine Met.ofW (cc := cJx4a65c_get_915e3) (maxL := 2) (ret := (some (.object "java/lang/Object"))) (by decide) rfl ?_
  intro p e s m args below meth c s₁ B hml hv
  obtain ⟨rfl, hE, hW0, hI0, hA⟩ := hv
  have hx := B.exec
  have hb := B.bytes
  have hr := B.returns
  have hts := atoms_spec (ws := wsJx4a65c_get_915e3) B.pre
  have hown : s.vm.findClass RJx4a65c = some m.cls := findClass_of_methodNamed B.named
  have hlocks := B.notSynchronized
  have hiRJx4a65c : ∀ w ∈ wsJx4a65c0, w ∈ wsJx4a65c_get_915e3 := by decide +kernel
  have hW : kS D A s.heap ad w s.heap [] := ⟨hW0, hI0, va_S.rf, hA⟩
  have hl := lv_entry ([.ref (ad kl), .int (nI i)]) (n := 2) (Nat.le_of_ble_eq_true rfl)
  rw [lg_entry_eq]
  generalize (lg_sl ([.ref (ad kl), .int (nI i)]) ++ List.replicate (2 - (lg_sl ([.ref (ad kl), .int (nI i)])).length) Slot.unset).toArray = ls at hl ⊢
  have hl : lv_has ls 2 [(0, .ref (ad kl)), (1, .int (nI i))] := hl
  obtain ⟨mc, cap, f, e0, h1, -⟩ := id hA9
  refine lv_iload_n hx hb dJx4a65c_get_915e3_0 rfl (lv_at hl 1 rfl) ?_
  refine lv_aload_n hx hb dJx4a65c_get_915e3_1 rfl (lv_at hl 0 rfl) ?_
  refine kk_get hx hb hts hown hE hW h1 rfl hiRJx4a65c 2 (by decide) (hts (.fieldLink RJx4a65c 48 "java/util/ArrayList" "size" "I") (by decide +kernel)) (fun _ h9 => h9) rfl dJx4a65c_get_915e3_2 ?_
  refine kk_i (va_runS (As := [.int (nI i), .int (nI n)]) (rest := []) ⟨hx, hb, hml, hown, hts⟩ (c_chk l D A ad w i n hi (by omega)) (va_cwS 2 hts gJx4a65c_get_915e3_J15_checkIndex_7cf53 rfl rfl rfl (by decide +kernel) ⟨Nat.le_of_ble_eq_true rfl, Nat.le_of_ble_eq_true rfl⟩) (kSt hE hW _) rfl rfl hl.1 rfl (lv_room (Nat.le_of_ble_eq_true rfl)) dJx4a65c_get_915e3_5 ⟨Nat.le_of_ble_eq_true rfl, Nat.le_of_ble_eq_true rfl⟩) hW (fun r4 ad1 w2 H5 locs hp3 hW => ?_)
  obtain ⟨e1, e2, e3⟩ := hp3
  rw [e2, e3] at hW
  subst e1
  refine lv_pop hx hb dJx4a65c_get_915e3_8 rfl ?_
  refine lv_aload_n hx hb dJx4a65c_get_915e3_9 rfl (lv_at hl 0 rfl) ?_
  refine lv_iload_n hx hb dJx4a65c_get_915e3_10 rfl (lv_at hl 1 rfl) ?_
  refine kk_q (va_runV (As := [.int (nI i)]) (rest := []) ⟨hx, hb, hml, hown, hts⟩ (c_elem l D A ad w kl ka n key hA9 hc9 i hi) (cwV 1 hts gJx4a65c_get_915e3_Jx4a65c_elementData_915e3 rfl rfl rfl (by decide +kernel) ⟨Nat.le_of_ble_eq_true rfl, Nat.le_of_ble_eq_true rfl⟩) (kV hE hW h1 rfl _) rfl rfl hl.1 rfl (lv_room (Nat.le_of_ble_eq_true rfl)) dJx4a65c_get_915e3_11 ⟨Nat.le_of_ble_eq_true rfl, Nat.le_of_ble_eq_true rfl⟩) hW (fun r9 ad6 w7 H10 locs hp8 hW => ?_)
  obtain ⟨e1, e2, e3⟩ := hp8
  rw [e2, e3] at hW
  exact ke_q hx hb hr (Or.inl ⟨_, rfl⟩) hlocks (Nat.le_of_ble_eq_true rfl) (Nat.le_of_ble_eq_true rfl) dJx4a65c_get_915e3_14 rfl hW (⟨e1, rfl, rfl⟩)

set_option maxHeartbeats 4000000 in
set_option maxRecDepth 100000 in
/-- c_newLength -/
theorem c_newLength (l : Launch) (D : va_G) (A : Nat → Prop) (ad : Nat → Nat) (w : kWd) (a b : Nat) (h1 : 1 ≤ b) (h2 : a + b ≤ 100000) : Met l yJ8_newLength_cabcc wsJ8_newLength_cabcc ({ frames := 1, cells := 0, slots := 0, locals := 100 }) (kPc D A [.int (nI a), .int (nI 1), .int (nI b)] ad w) (kQi D A (fun v ad' w' => v = nI (a + b) ∧ ad' = ad ∧ w' = w)) 0 0 A := by
  refine Met.ofW (cc := cJ8_newLength_cabcc) (maxL := 4) (ret := (some (.int))) (by decide) rfl ?_
  intro p e s m args below meth c s₁ B hml hv
  obtain ⟨rfl, hE, hW0, hI0, hA⟩ := hv
  have hx := B.exec
  have hb := B.bytes
  have hr := B.returns
  have hts := atoms_spec (ws := wsJ8_newLength_cabcc) B.pre
  have hown : s.vm.findClass RJ8 = some m.cls := findClass_of_methodNamed B.named
  have hlocks := B.notSynchronized
  have hW : kS D A s.heap ad w s.heap [] := ⟨hW0, hI0, va_S.rf, hA⟩
  have hl := lv_entry ([.int (nI a), .int (nI 1), .int (nI b)]) (n := 4) (Nat.le_of_ble_eq_true rfl)
  rw [lg_entry_eq]
  generalize (lg_sl ([.int (nI a), .int (nI 1), .int (nI b)]) ++ List.replicate (4 - (lg_sl ([.int (nI a), .int (nI 1), .int (nI b)])).length) Slot.unset).toArray = ls at hl ⊢
  have hl : lv_has ls 4 [(0, .int (nI a)), (1, .int (nI 1)), (2, .int (nI b))] := hl
  refine lv_iload_n hx hb dJ8_newLength_cabcc_0 rfl (lv_at hl 0 rfl) ?_
  refine lv_iload_n hx hb dJ8_newLength_cabcc_1 rfl (lv_at hl 1 rfl) ?_
  refine lv_iload_n hx hb dJ8_newLength_cabcc_2 rfl (lv_at hl 2 rfl) ?_
  refine va_mmax hx hb (by rw [hml]; exact hl.1.symm) hown (hts (.methodLink RJ8 194 Lib.Math.max.name) (by decide +kernel)) (hts (.static Lib.Math.max.name) (by decide +kernel)) (hts (.initialized "java/lang/Math") (by decide +kernel)) (hts (.code Lib.Math.max.name Lib.Math.max.code 2 (some .int)) (by decide +kernel)) (Nat.le_of_ble_eq_true rfl) (Nat.le_of_ble_eq_true rfl) (Nat.le_of_ble_eq_true rfl) (Nat.le_of_ble_eq_true rfl) dJ8_newLength_cabcc_3 ?_
  rw [show (if nI 1 < nI b then nI b else nI 1) = nI b from by
    by_cases q : 1 < b
    · exact if_pos (nI_lt q (by omega))
    · rw [show b = 1 by omega]; exact if_neg (nI_nlt (by omega) (by omega))]
  refine lv_iadd hx hb dJ8_newLength_cabcc_6 ?_
  rw [nI_add]
  refine lv_istore_n (lv' := [(3, .int (nI (a + b))), (0, .int (nI a)), (1, .int (nI 1)), (2, .int (nI b))]) hx hb dJ8_newLength_cabcc_7 rfl hl (by decide) rfl (fun ls hl => ?_)
  refine lv_iconst (v := 0) hx hb dJ8_newLength_cabcc_8 (by decide) ?_
  refine lv_iload_n hx hb dJ8_newLength_cabcc_9 rfl (lv_at hl 0 rfl) ?_
  refine lv_icmp_ge (tgt := 21) hx hb dJ8_newLength_cabcc_10 (by decide) (fun c9 => absurd c9 (nI_nle (by omega) (by omega))) (fun _ => ?_)
  refine lv_iload_n hx hb dJ8_newLength_cabcc_13 rfl (lv_at hl 0 rfl) ?_
  refine lv_ldc (v := 2147483639) hx hb hown (hts (.constant RJ8 200 (2147483639)) (by decide +kernel)) dJ8_newLength_cabcc_14 ?_
  refine lv_icmp_gt (tgt := 21) hx hb dJ8_newLength_cabcc_16 (by decide) (fun c9 => absurd c9 ((show ¬ nI 2147483639 < nI (a + b) from nI_nlt (by omega) (by decide)))) (fun _ => ?_)
  refine lv_iload_n hx hb dJ8_newLength_cabcc_19 rfl (lv_at hl 0 rfl) ?_
  exact ke_i hx hb hr hlocks (Nat.le_of_ble_eq_true rfl) (Nat.le_of_ble_eq_true rfl) dJ8_newLength_cabcc_20 hW (⟨rfl, rfl, rfl⟩)

set_option maxHeartbeats 4000000 in
set_option maxRecDepth 100000 in
/-- c_copyOf3 -/
theorem c_copyOf3 (l : Launch) (D : va_G) (A : Nat → Prop) (ad : Nat → Nat) (w : kWd) (ka ck cap n : Nat) (f : Nat → Option Nat) (hf : w ka = qA D cap f) (hka : ka ≠ 7) (hk2 : ck = 2 ∨ ck = 5) (hel : ∀ i, i < cap → ∃ k fs, w k = some (.inr (ck, fs)) ∧ f i = some (ad k) ∧ k ≠ 7) (hc : cap ≤ n) (hn : n ≤ 2000)  : Met l yJ7_copyOf_6403c wsJ7_copyOf_6403c ({ frames := 1, cells := 1, slots := 2000, locals := 100 }) (kPc D A [.ref (ad ka), .int (nI n), .ref (D.2 998 0)] ad w) (kQq D A (fun v ad' w' => ∃ g, v = some (ad' 7) ∧ w' 7 = qA D n g ∧ (∀ i, i < cap → g i = f i) ∧ (∀ k, k ≠ 7 → w' k = w k) ∧ ∀ k, k ≠ 7 → ad' k = ad k)) 1 2000 A := by
  refine Met.ofW (cc := cJ7_copyOf_6403c) (maxL := 4) (ret := (some (.array (.object "java/lang/Object")))) (by decide) rfl ?_
  intro p e s m args below meth c s₁ B hml hv
  obtain ⟨rfl, hE, hW0, hI0, hA⟩ := hv
  have hx := B.exec
  have hb := B.bytes
  have hr := B.returns
  have hts := atoms_spec (ws := wsJ7_copyOf_6403c) B.pre
  have hown : s.vm.findClass RJ7 = some m.cls := findClass_of_methodNamed B.named
  have hlocks := B.notSynchronized
  have hW : kS D A s.heap ad w s.heap [] := ⟨hW0, hI0, va_S.rf, hA⟩
  have hl := lv_entry ([.ref (ad ka), .int (nI n), .ref (D.2 998 0)]) (n := 4) (Nat.le_of_ble_eq_true rfl)
  rw [lg_entry_eq]
  generalize (lg_sl ([.ref (ad ka), .int (nI n), .ref (D.2 998 0)]) ++ List.replicate (4 - (lg_sl ([.ref (ad ka), .int (nI n), .ref (D.2 998 0)])).length) Slot.unset).toArray = ls at hl ⊢
  have hl : lv_has ls 4 [(0, .ref (ad ka)), (1, .int (nI n)), (2, .ref (D.2 998 0))] := hl
  refine lv_aload_n hx hb dJ7_copyOf_6403c_0 rfl (lv_at hl 2 rfl) ?_
  refine va_ldcM hx hb hown (hts (.classLink RJ7 110 "[Ljava/lang/Object;") (by decide +kernel)) hE.AO.2.2.2.2 dJ7_copyOf_6403c_1 ?_
  refine lv_acmp_ne (rx := some (D.2 998 0)) (ry := some (D.2 998 0)) (tgt := 13) hx hb dJ7_copyOf_6403c_3 (by decide) (fun c => absurd rfl c) (fun _ => ?_)
  refine lv_iload_n hx hb dJ7_copyOf_6403c_6 rfl (lv_at hl 1 rfl) ?_
  refine kk_newq hx hb hown (hts (.classLink RJ7 2 "java/lang/Object") (by decide +kernel)) hE.AO.2.2.2.1 hE hW 7 6 rfl (nI_pos (by omega)) (nv_nI (by omega)) (by omega) (Nat.le_of_ble_eq_true rfl) (show 0 + n ≤ 2000 by omega) dJ7_copyOf_6403c_7 (fun H ad1 w1 ea e1 hW => ?_)
  have a7 : ad1 ka = ad ka := up_n ea hka
  rw [← a7] at hl
  have f1 := (up_n e1 hka).trans hf
  have f7 := up_s e1
  refine lv_goto (tgt := 24) hx hb dJ7_copyOf_6403c_10 (by decide) ?_
  refine lv_astore_n (lv' := [(3, .ref (ad1 7)), (0, .ref (ad1 ka)), (1, .int (nI n)), (2, .ref (D.2 998 0))]) hx hb dJ7_copyOf_6403c_24 rfl hl (by decide) rfl (fun ls hl => ?_)
  refine lv_aload_n hx hb dJ7_copyOf_6403c_25 rfl (lv_at hl 1 rfl) ?_
  refine lv_iconst (v := 0) hx hb dJ7_copyOf_6403c_26 (by decide) ?_
  refine lv_aload_n hx hb dJ7_copyOf_6403c_27 rfl (lv_at hl 0 rfl) ?_
  refine lv_iconst (v := 0) hx hb dJ7_copyOf_6403c_28 (by decide) ?_
  refine lv_aload_n hx hb dJ7_copyOf_6403c_29 rfl (lv_at hl 1 rfl) ?_
  refine kk_alen hx hb hE hW 6 f1 rfl (v := nI (cap)) rfl dJ7_copyOf_6403c_30 ?_
  refine lv_iload_n hx hb dJ7_copyOf_6403c_31 rfl (lv_at hl 2 rfl) ?_
  refine va_mmin hx hb (by rw [hml]; exact hl.1.symm) hown (hts (.methodLink RJ7 304 Lib.Math.min.name) (by decide +kernel)) (hts (.static Lib.Math.min.name) (by decide +kernel)) (hts (.initialized "java/lang/Math") (by decide +kernel)) (hts (.code Lib.Math.min.name Lib.Math.min.code 2 (some .int)) (by decide +kernel)) (Nat.le_of_ble_eq_true rfl) (Nat.le_of_ble_eq_true rfl) (Nat.le_of_ble_eq_true rfl) (show 0 + n ≤ 2000 by omega) dJ7_copyOf_6403c_32 ?_
  rw [show (if nI n < nI cap then nI n else nI cap) = nI cap from if_neg (nI_nlt hc (by omega))]
  have hcn : (nI cap).toNatClampNeg = cap := nv_nI (by omega)
  have h00 : (0 : Int32).toNatClampNeg = 0 := by decide
  refine kk_copy hx hb (by rw [hml]; exact hl.1.symm) hown (hts (.methodLink RJ7 150 arraycopyName) (by decide +kernel)) (hts (.native arraycopyName) (by decide +kernel)) (hts (.static arraycopyName) (by decide +kernel)) (hts (.initialized "java/lang/System") (by decide +kernel)) hE hW f1 f7 (by decide) (by decide) (nI_pos (by omega)) (by rw [hcn, h00]; omega) (by rw [hcn, h00]; omega) (fun i hi y hy => ?_) (Nat.le_of_ble_eq_true rfl) (by decide +kernel) dJ7_copyOf_6403c_35 (fun H locs w2 e2 hW => ?_)
  · rw [hcn] at hi
    rw [h00, Nat.zero_add] at hy
    obtain ⟨k, fs, g1, g2, g3⟩ := hel i hi
    cases g2.symm.trans hy
    have g4 := (up_n e1 g3).trans g1
    rcases hk2 with rfl | rfl
    · have := va_rAny hE.K (hW.P1 g4) (q0 := 0) rfl rfl (kAsg hE (Or.inl rfl) rfl)
      rw [up_n ea g3] at this
      exact this
    · have := va_rAny hE.K (hW.P1 g4) (q0 := 0) rfl rfl (kAsg hE (Or.inr rfl) rfl)
      rw [up_n ea g3] at this
      exact this
  rw [hcn, h00] at e2
  refine lv_aload_n hx hb dJ7_copyOf_6403c_38 rfl (lv_at hl 0 rfl) ?_
  refine W.widen (k := 1) (n := 2000) (Nat.le_of_ble_eq_true rfl) (show 0 + n ≤ 2000 by omega) ?_
  exact ke_q hx hb hr (Or.inr ⟨_, rfl⟩) hlocks (Nat.le_of_ble_eq_true rfl) (Nat.le_of_ble_eq_true rfl) dJ7_copyOf_6403c_39 rfl hW (⟨_, rfl, up_s e2, fun i hi => (pk_cpy_in (Nat.zero_le i) (by omega)).trans (by rw [Nat.zero_add, Nat.sub_zero]), fun k hk => (up_n e2 hk).trans (up_n e1 hk), fun k hk => up_n ea hk⟩)

set_option maxHeartbeats 4000000 in
set_option maxRecDepth 100000 in
/-- c_copyOf2 -/
theorem c_copyOf2 (l : Launch) (D : va_G) (A : Nat → Prop) (ad : Nat → Nat) (w : kWd) (ka ck cap n : Nat) (f : Nat → Option Nat) (hf : w ka = qA D cap f) (hka : ka ≠ 7) (hk2 : ck = 2 ∨ ck = 5) (hel : ∀ i, i < cap → ∃ k fs, w k = some (.inr (ck, fs)) ∧ f i = some (ad k) ∧ k ≠ 7) (hc : cap ≤ n) (hn : n ≤ 2000)  : Met l yJ7_copyOf_1904c wsJ7_copyOf_1904c ({ frames := 2, cells := 1, slots := 2000, locals := 123 }) (kPc D A [.ref (ad ka), .int (nI n)] ad w) (kQq D A (fun v ad' w' => ∃ g, v = some (ad' 7) ∧ w' 7 = qA D n g ∧ (∀ i, i < cap → g i = f i) ∧ (∀ k, k ≠ 7 → w' k = w k) ∧ ∀ k, k ≠ 7 → ad' k = ad k)) 1 2000 A := by
  refine Met.ofW (cc := cJ7_copyOf_1904c) (maxL := 2) (ret := (some (.array (.object "java/lang/Object")))) (by decide) rfl ?_
  intro p e s m args below meth c s₁ B hml hv
  obtain ⟨rfl, hE, hW0, hI0, hA⟩ := hv
  have hx := B.exec
  have hb := B.bytes
  have hr := B.returns
  have hts := atoms_spec (ws := wsJ7_copyOf_1904c) B.pre
  have hown : s.vm.findClass RJ7 = some m.cls := findClass_of_methodNamed B.named
  have hlocks := B.notSynchronized
  have hW : kS D A s.heap ad w s.heap [] := ⟨hW0, hI0, va_S.rf, hA⟩
  have hl := lv_entry ([.ref (ad ka), .int (nI n)]) (n := 2) (Nat.le_of_ble_eq_true rfl)
  rw [lg_entry_eq]
  generalize (lg_sl ([.ref (ad ka), .int (nI n)]) ++ List.replicate (2 - (lg_sl ([.ref (ad ka), .int (nI n)])).length) Slot.unset).toArray = ls at hl ⊢
  have hl : lv_has ls 2 [(0, .ref (ad ka)), (1, .int (nI n))] := hl
  refine lv_aload_n hx hb dJ7_copyOf_1904c_0 rfl (lv_at hl 0 rfl) ?_
  refine lv_iload_n hx hb dJ7_copyOf_1904c_1 rfl (lv_at hl 1 rfl) ?_
  refine lv_aload_n hx hb dJ7_copyOf_1904c_2 rfl (lv_at hl 0 rfl) ?_
  refine va_getC hx hb (by rw [hml]; exact hl.1.symm) hown (hts (.methodLink RJ7 86 ⟨"java/lang/Object", "getClass", "()Ljava/lang/Class;"⟩) (by decide +kernel)) (va_Nw.use rfl (hE.N 38 rfl)) (hts (.selects "[Ljava/lang/Object;" ⟨"java/lang/Object", "getClass", "()Ljava/lang/Class;"⟩ ⟨"java/lang/Object", "getClass", "()Ljava/lang/Class;"⟩) (by decide +kernel)) (hts (.instanceMethod ⟨"java/lang/Object", "getClass", "()Ljava/lang/Class;"⟩) (by decide +kernel)) (hts (.native ⟨"java/lang/Object", "getClass", "()Ljava/lang/Class;"⟩) (by decide +kernel)) hE.AO.2.2.2.2 ⟨_, hW.1 ka _ hf, rfl, va_nmO (hE.K.2 6 _ rfl).2 rfl⟩ (Nat.le_of_ble_eq_true rfl) (Nat.le_of_ble_eq_true rfl) dJ7_copyOf_1904c_3 ?_
  refine kk_q (va_runS (As := [.ref (ad ka), .int (nI n), .ref (D.2 998 0)]) (rest := []) ⟨hx, hb, hml, hown, hts⟩ (c_copyOf3 l D A ad w ka ck cap n f hf hka hk2 hel hc hn) (va_cwS 3 hts gJ7_copyOf_1904c_J7_copyOf_6403c rfl rfl rfl (by decide +kernel) ⟨Nat.le_of_ble_eq_true rfl, Nat.le_of_ble_eq_true rfl⟩) (kSt hE hW _) rfl rfl hl.1 rfl (lv_room (Nat.le_of_ble_eq_true rfl)) dJ7_copyOf_1904c_6 ⟨Nat.le_of_ble_eq_true rfl, Nat.le_of_ble_eq_true rfl⟩) hW (fun r4 ad1 w2 H5 locs hp3 hW => ?_)
  exact ke_q hx hb hr (Or.inr ⟨_, rfl⟩) hlocks (Nat.le_of_ble_eq_true rfl) (Nat.le_of_ble_eq_true rfl) dJ7_copyOf_1904c_9 rfl hW (hp3)

set_option maxHeartbeats 4000000 in
set_option maxRecDepth 100000 in
/-- c_growI -/
theorem c_growI (l : Launch) (D : va_G) (A : Nat → Prop) (ad : Nat → Nat) (w : kWd) (kl ka ck n : Nat) (key : Nat → Nat) (mc : Int32) (f : Nat → Option Nat) (e0 : Nat) (hA9 : LX D kl ka n key ad w mc n f e0) (hn : n ≤ 600) (hka : ka ≠ 7) (hkl : kl ≠ 7) (hlk : kl ≠ ka) (hk2 : ck = 2 ∨ ck = 5) (hel : ∀ i, i < n → (∃ fs, w (key i) = some (.inr (ck, fs))) ∧ key i ≠ 7 ∧ key i ≠ ka)  : Met l yJx4a65c_grow_92f84 wsJx4a65c_grow_92f84 ({ frames := 3, cells := 1, slots := 2000, locals := 144 }) (kPc D A [.ref (ad kl), .int (nI (n + 1))] ad w) (kQq D A (fun v ad' w' => ∃ cap g, v = some (ad' ka) ∧ n + 1 ≤ cap ∧ LX D kl ka n key ad' w' mc cap g (ad' ka) ∧ w' ka = qA D cap g ∧ cap ≤ 10 + 2 * n ∧ 2 ≤ cap ∧ FrL kl ka ad w ad' w')) 1 2000 A := by
  refine Met.ofW (cc := cJx4a65c_grow_92f84) (maxL := 4) (ret := (some (.array (.object "java/lang/Object")))) (by decide) rfl ?_
  intro p e s m args below meth c s₁ B hml hv
  obtain ⟨rfl, hE, hW0, hI0, hA⟩ := hv
  have hx := B.exec
  have hb := B.bytes
  have hr := B.returns
  have hts := atoms_spec (ws := wsJx4a65c_grow_92f84) B.pre
  have hown : s.vm.findClass RJx4a65c = some m.cls := findClass_of_methodNamed B.named
  have hlocks := B.notSynchronized
  have hiRJx4a65c : ∀ w ∈ wsJx4a65c0, w ∈ wsJx4a65c_grow_92f84 := by decide +kernel
  have hW : kS D A s.heap ad w s.heap [] := ⟨hW0, hI0, va_S.rf, hA⟩
  have hl := lv_entry ([.ref (ad kl), .int (nI (n + 1))]) (n := 4) (Nat.le_of_ble_eq_true rfl)
  rw [lg_entry_eq]
  generalize (lg_sl ([.ref (ad kl), .int (nI (n + 1))]) ++ List.replicate (4 - (lg_sl ([.ref (ad kl), .int (nI (n + 1))])).length) Slot.unset).toArray = ls at hl ⊢
  have hl : lv_has ls 4 [(0, .ref (ad kl)), (1, .int (nI (n + 1)))] := hl
  obtain ⟨h1, h2, h3, h4, h5⟩ := hA9
  rcases h4 with ⟨rfl, rfl⟩ | ⟨h4, rfl, h6⟩
  · refine lv_aload_n hx hb dJx4a65c_grow_92f84_0 rfl (lv_at hl 0 rfl) ?_
    refine kk_get hx hb hts hown hE hW h1 rfl hiRJx4a65c 1 (by decide) (hts (.fieldLink RJx4a65c 9 "java/util/ArrayList" "elementData" "[Ljava/lang/Object;") (by decide +kernel)) (fun _ h9 => h9) rfl dJx4a65c_grow_92f84_1 ?_
    refine va_tlen hx hb hE.2.2.2.2.1 hW.2.2.1 (v := 0) rfl dJx4a65c_grow_92f84_4 ?_
    refine lv_istore_n (lv' := [(2, .int 0), (0, .ref (ad kl)), (1, .int (nI (0 + 1)))]) hx hb dJx4a65c_grow_92f84_5 rfl hl (by decide) rfl (fun ls hl => ?_)
    refine lv_iload_n hx hb dJx4a65c_grow_92f84_6 rfl (lv_at hl 0 rfl) ?_
    refine lv_if_gt (tgt := 20) hx hb dJx4a65c_grow_92f84_7 (by decide) (fun c9 => absurd c9 (by decide)) (fun _ => ?_)
    refine lv_aload_n hx hb dJx4a65c_grow_92f84_10 rfl (lv_at hl 1 rfl) ?_
    refine kk_get hx hb hts hown hE hW h1 rfl hiRJx4a65c 1 (by decide) (hts (.fieldLink RJx4a65c 9 "java/util/ArrayList" "elementData" "[Ljava/lang/Object;") (by decide +kernel)) (fun _ h9 => h9) rfl dJx4a65c_grow_92f84_11 ?_
    refine va_gets hx hb hE.2.2.2.1 hW.2.2.1 hown (hts (.fieldLink RJx4a65c 39 "java/util/ArrayList" "DEFAULTCAPACITY_EMPTY_ELEMENTDATA" "[Ljava/lang/Object;") (by decide +kernel)) (fun _ h9 => h9) dJx4a65c_grow_92f84_14 ?_
    refine lv_acmp_eq (rx := some (D.2 999 0)) (ry := some (D.2 999 0)) (tgt := 45) hx hb dJx4a65c_grow_92f84_17 (by decide) (fun _ => ?_) (fun c => absurd rfl c)
    refine lv_aload_n hx hb dJx4a65c_grow_92f84_45 rfl (lv_at hl 1 rfl) ?_
    refine lv_bipush (v := 10) hx hb dJx4a65c_grow_92f84_46 (by decide) ?_
    refine lv_iload_n hx hb dJx4a65c_grow_92f84_48 rfl (lv_at hl 2 rfl) ?_
    refine va_mmax hx hb (by rw [hml]; exact hl.1.symm) hown (hts (.methodLink RJx4a65c 79 Lib.Math.max.name) (by decide +kernel)) (hts (.static Lib.Math.max.name) (by decide +kernel)) (hts (.initialized "java/lang/Math") (by decide +kernel)) (hts (.code Lib.Math.max.name Lib.Math.max.code 2 (some .int)) (by decide +kernel)) (Nat.le_of_ble_eq_true rfl) (Nat.le_of_ble_eq_true rfl) (Nat.le_of_ble_eq_true rfl) (Nat.le_of_ble_eq_true rfl) dJx4a65c_grow_92f84_49 ?_
    rw [show (if (10 : Int32) < nI (0 + 1) then nI (0 + 1) else 10) = 10 from by decide]
    refine kk_newq hx hb hown (hts (.classLink RJx4a65c 7 "java/lang/Object") (by decide +kernel)) hE.AO.2.2.2.1 hE hW ka 6 rfl (by decide) (N' := 10) (by decide) (by decide) (Nat.le_of_ble_eq_true rfl) (Nat.le_of_ble_eq_true rfl) dJx4a65c_grow_92f84_52 (fun H ad1 w1 ea e1 hW => ?_)
    have a7 : ad1 kl = ad kl := up_n ea hlk
    rw [← a7] at hl
    have f1 := (up_n e1 hlk).trans h1
    have f7 := up_s e1
    refine W.eq (g2 := F0 m 55 ls [.ref (ad1 ka), .ref (ad1 kl)]) (by rw [a7]) ?_
    refine lv_dup_x1 hx hb dJx4a65c_grow_92f84_55 rfl rfl ?_
    refine kk_put hx hb hts hown hE hW f1 rfl hiRJx4a65c tyJx4a65c tyJx4a65c_ok nmJx4a65c 1 (by decide) (hts (.fieldLink RJx4a65c 9 "java/util/ArrayList" "elementData" "[Ljava/lang/Object;") (by decide +kernel)) (fun _ h9 => h9) rfl (ty := tyJx4a65c 1) (tyJx4a65c_ok 1 (by decide)) rfl rfl (Nat.le_of_ble_eq_true rfl) dJx4a65c_grow_92f84_56 (fun H3 locs w1 e2 hW => ?_)
    have f4 := (up_n e2 (Ne.symm hlk)).trans f7
    have f5 := up_s e2
    exact ke_q hx hb hr (Or.inr ⟨_, rfl⟩) hlocks (Nat.le_of_ble_eq_true rfl) (Nat.le_of_ble_eq_true rfl) dJx4a65c_grow_92f84_59 rfl hW (⟨10, (fun _ => none), rfl, by omega, ⟨f5, by omega, by omega, Or.inr ⟨by omega, rfl, f4⟩, fun i hi => absurd hi (Nat.not_lt_zero i)⟩, f4, by omega, by omega, fun k q1 q2 q3 => (up_n e2 q1).trans (up_n e1 q2), fun k q2 q3 => up_n ea q2⟩)
  · refine lv_aload_n hx hb dJx4a65c_grow_92f84_0 rfl (lv_at hl 0 rfl) ?_
    refine kk_get hx hb hts hown hE hW h1 rfl hiRJx4a65c 1 (by decide) (hts (.fieldLink RJx4a65c 9 "java/util/ArrayList" "elementData" "[Ljava/lang/Object;") (by decide +kernel)) (fun _ h9 => h9) rfl dJx4a65c_grow_92f84_1 ?_
    refine kk_alen hx hb hE hW 6 h6 rfl (v := nI (n)) rfl dJx4a65c_grow_92f84_4 ?_
    refine lv_istore_n (lv' := [(2, .int (nI (n))), (0, .ref (ad kl)), (1, .int (nI (n + 1)))]) hx hb dJx4a65c_grow_92f84_5 rfl hl (by decide) rfl (fun ls hl => ?_)
    refine lv_iload_n hx hb dJx4a65c_grow_92f84_6 rfl (lv_at hl 0 rfl) ?_
    refine lv_if_gt (tgt := 20) hx hb dJx4a65c_grow_92f84_7 (by decide) (fun _ => ?_) (fun c9 => absurd (nI_lt (show 0 < n by omega) (by omega)) c9)
    refine lv_iload_n hx hb dJx4a65c_grow_92f84_20 rfl (lv_at hl 0 rfl) ?_
    refine lv_iload_n hx hb dJx4a65c_grow_92f84_21 rfl (lv_at hl 2 rfl) ?_
    refine lv_iload_n hx hb dJx4a65c_grow_92f84_22 rfl (lv_at hl 0 rfl) ?_
    refine lv_isub hx hb dJx4a65c_grow_92f84_23 ?_
    rw [show nI (n + 1) - nI n = nI 1 from by rw [pk_sub (by omega), Nat.add_sub_cancel_left]]
    refine lv_iload_n hx hb dJx4a65c_grow_92f84_24 rfl (lv_at hl 0 rfl) ?_
    refine lv_iconst (v := 1) hx hb dJx4a65c_grow_92f84_25 (by decide) ?_
    refine lv_ishr hx hb dJx4a65c_grow_92f84_26 ?_
    rw [show nI n >>> ((1 : Int32) &&& 31) = nI (n / 2) from pk_shrN (by omega) ((1 : Int32) &&& 31) 1 (by decide)]
    refine kk_i (va_runS (As := [.int (nI (n)), .int (nI 1), .int (nI (n / 2))]) (rest := []) ⟨hx, hb, hml, hown, hts⟩ (c_newLength l D A ad w n (n / 2) (by omega) (by omega)) (va_cwS 3 hts gJx4a65c_grow_92f84_J8_newLength_cabcc rfl rfl rfl (by decide +kernel) ⟨Nat.le_of_ble_eq_true rfl, Nat.le_of_ble_eq_true rfl⟩) (kSt hE hW _) rfl rfl hl.1 rfl (lv_room (Nat.le_of_ble_eq_true rfl)) dJx4a65c_grow_92f84_27 ⟨Nat.le_of_ble_eq_true rfl, Nat.le_of_ble_eq_true rfl⟩) hW (fun r9 ad6 w7 H10 locs hp8 hW => ?_)
    obtain ⟨e1, e2, e3⟩ := hp8
    rw [e2, e3] at hW
    subst e1
    refine lv_istore_n (lv' := [(3, .int (nI (n + n / 2))), (2, .int (nI (n))), (0, .ref (ad kl)), (1, .int (nI (n + 1)))]) hx hb dJx4a65c_grow_92f84_30 rfl hl (by decide) rfl (fun ls hl => ?_)
    refine lv_aload_n hx hb dJx4a65c_grow_92f84_31 rfl (lv_at hl 2 rfl) ?_
    refine lv_aload_n hx hb dJx4a65c_grow_92f84_32 rfl (lv_at hl 2 rfl) ?_
    refine kk_get hx hb hts hown hE hW h1 rfl hiRJx4a65c 1 (by decide) (hts (.fieldLink RJx4a65c 9 "java/util/ArrayList" "elementData" "[Ljava/lang/Object;") (by decide +kernel)) (fun _ h9 => h9) rfl dJx4a65c_grow_92f84_33 ?_
    refine lv_iload_n hx hb dJx4a65c_grow_92f84_36 rfl (lv_at hl 0 rfl) ?_
    refine kk_q (va_runS (As := [.ref (ad ka), .int (nI (n + n / 2))]) (rest := [.ref (ad kl)]) ⟨hx, hb, hml, hown, hts⟩ (c_copyOf2 l D A ad w ka ck n (n + n / 2) f h6 hka hk2 (fun i hi => by obtain ⟨⟨fs, g1⟩, g2, g3⟩ := hel i hi; exact ⟨key i, fs, g1, h5 i hi, g2⟩) (by omega) (by omega)) (va_cwS 2 hts gJx4a65c_grow_92f84_J7_copyOf_1904c rfl rfl rfl (by decide +kernel) ⟨Nat.le_of_ble_eq_true rfl, Nat.le_of_ble_eq_true rfl⟩) (kSt hE hW _) rfl rfl hl.1 rfl (lv_room (Nat.le_of_ble_eq_true rfl)) dJx4a65c_grow_92f84_37 ⟨Nat.le_of_ble_eq_true rfl, Nat.le_of_ble_eq_true rfl⟩) hW (fun r14 ad11 w12 H15 locs hp13 hW => ?_)
    obtain ⟨g, rfl, g1, g2, g3, g4⟩ := hp13
    have hW := hW.ren ka 7 hka
    obtain ⟨ad9, ea⟩ : ∃ z, z = va_up ad11 ka (ad11 7) := ⟨_, rfl⟩
    obtain ⟨w9, ew⟩ : ∃ z, z = va_up (va_up w12 ka (w12 7)) 7 none := ⟨_, rfl⟩
    rw [← ea, ← ew] at hW
    have a1 : ad9 kl = ad kl := (up_n ea hlk).trans (g4 kl hkl)
    have a2 : ad11 7 = ad9 ka := (up_s ea).symm
    have w7 : ∀ k, k ≠ ka → k ≠ 7 → w9 k = w k := fun k q1 q2 => (up_n ew q2).trans ((va_up_ne _ _ q1).trans (g3 k q2))
    have f1 := (w7 kl hlk hkl).trans h1
    have f2 : w9 ka = qA D (n + n / 2) g := (up_n ew hka).trans ((va_up_self _ _ _).trans g1)
    rw [← a1] at hl
    refine W.eq (g2 := F0 m 40 ls [.ref (ad9 ka), .ref (ad9 kl)]) (by rw [a1, ← a2]; rfl) ?_
    refine lv_dup_x1 hx hb dJx4a65c_grow_92f84_40 rfl rfl ?_
    refine kk_put hx hb hts hown hE hW f1 rfl hiRJx4a65c tyJx4a65c tyJx4a65c_ok nmJx4a65c 1 (by decide) (hts (.fieldLink RJx4a65c 9 "java/util/ArrayList" "elementData" "[Ljava/lang/Object;") (by decide +kernel)) (fun _ h9 => h9) rfl (ty := tyJx4a65c 1) (tyJx4a65c_ok 1 (by decide)) rfl rfl (Nat.le_of_ble_eq_true rfl) dJx4a65c_grow_92f84_41 (fun H18 locs w16 e17 hW => ?_)
    have f19 := (up_n e17 (Ne.symm hlk)).trans f2
    have f20 := up_s e17
    exact ke_q hx hb hr (Or.inr ⟨_, rfl⟩) hlocks (Nat.le_of_ble_eq_true rfl) (Nat.le_of_ble_eq_true rfl) dJx4a65c_grow_92f84_44 rfl hW (⟨n + n / 2, g, rfl, by omega, ⟨f20, by omega, by omega, Or.inr ⟨by omega, rfl, f19⟩, fun i hi => by rw [g2 i hi, h5 i hi, show ad9 (key i) = ad (key i) from (up_n ea (hel i hi).2.2).trans (g4 _ (hel i hi).2.1)]⟩, f19, by omega, by omega, fun k q1 q2 q3 => (up_n e17 q1).trans (w7 k q2 q3), fun k q2 q3 => (up_n ea q2).trans (g4 k q3)⟩)

set_option maxHeartbeats 4000000 in
set_option maxRecDepth 100000 in
/-- c_grow0 -/
theorem c_grow0 (l : Launch) (D : va_G) (A : Nat → Prop) (ad : Nat → Nat) (w : kWd) (kl ka ck n : Nat) (key : Nat → Nat) (mc : Int32) (f : Nat → Option Nat) (e0 : Nat) (hA9 : LX D kl ka n key ad w mc n f e0) (hn : n ≤ 600) (hka : ka ≠ 7) (hkl : kl ≠ 7) (hlk : kl ≠ ka) (hk2 : ck = 2 ∨ ck = 5) (hel : ∀ i, i < n → (∃ fs, w (key i) = some (.inr (ck, fs))) ∧ key i ≠ 7 ∧ key i ≠ ka)  : Met l yJx4a65c_grow_d5877 wsJx4a65c_grow_d5877 ({ frames := 4, cells := 1, slots := 2000, locals := 167 }) (kPc D A [.ref (ad kl)] ad w) (kQq D A (fun v ad' w' => ∃ cap g, v = some (ad' ka) ∧ n + 1 ≤ cap ∧ LX D kl ka n key ad' w' mc cap g (ad' ka) ∧ w' ka = qA D cap g ∧ cap ≤ 10 + 2 * n ∧ 2 ≤ cap ∧ FrL kl ka ad w ad' w')) 1 2000 A := by
  refine Met.ofW (cc := cJx4a65c_grow_d5877) (maxL := 1) (ret := (some (.array (.object "java/lang/Object")))) (by decide) rfl ?_
  intro p e s m args below meth c s₁ B hml hv
  obtain ⟨rfl, hE, hW0, hI0, hA⟩ := hv
  have hx := B.exec
  have hb := B.bytes
  have hr := B.returns
  have hts := atoms_spec (ws := wsJx4a65c_grow_d5877) B.pre
  have hown : s.vm.findClass RJx4a65c = some m.cls := findClass_of_methodNamed B.named
  have hlocks := B.notSynchronized
  have hiRJx4a65c : ∀ w ∈ wsJx4a65c0, w ∈ wsJx4a65c_grow_d5877 := by decide +kernel
  have hW : kS D A s.heap ad w s.heap [] := ⟨hW0, hI0, va_S.rf, hA⟩
  have hl := lv_entry ([.ref (ad kl)]) (n := 1) (Nat.le_of_ble_eq_true rfl)
  rw [lg_entry_eq]
  generalize (lg_sl ([.ref (ad kl)]) ++ List.replicate (1 - (lg_sl ([.ref (ad kl)])).length) Slot.unset).toArray = ls at hl ⊢
  have hl : lv_has ls 1 [(0, .ref (ad kl))] := hl
  refine lv_aload_n hx hb dJx4a65c_grow_d5877_0 rfl (lv_at hl 0 rfl) ?_
  refine lv_aload_n hx hb dJx4a65c_grow_d5877_1 rfl (lv_at hl 0 rfl) ?_
  refine kk_get hx hb hts hown hE hW hA9.1 rfl hiRJx4a65c 2 (by decide) (hts (.fieldLink RJx4a65c 48 "java/util/ArrayList" "size" "I") (by decide +kernel)) (fun _ h9 => h9) rfl dJx4a65c_grow_d5877_2 ?_
  refine lv_iconst (v := 1) hx hb dJx4a65c_grow_d5877_5 (by decide) ?_
  refine lv_iadd hx hb dJx4a65c_grow_d5877_6 ?_
  rw [nI_1]
  refine kk_q (va_runV (As := [.int (nI (n + 1))]) (rest := []) ⟨hx, hb, hml, hown, hts⟩ (c_growI l D A ad w kl ka ck n key mc f e0 hA9 hn hka hkl hlk hk2 hel) (cwV 1 hts gJx4a65c_grow_d5877_Jx4a65c_grow_92f84 rfl rfl rfl (by decide +kernel) ⟨Nat.le_of_ble_eq_true rfl, Nat.le_of_ble_eq_true rfl⟩) (kV hE hW hA9.1 rfl _) rfl rfl hl.1 rfl (lv_room (Nat.le_of_ble_eq_true rfl)) dJx4a65c_grow_d5877_7 ⟨Nat.le_of_ble_eq_true rfl, Nat.le_of_ble_eq_true rfl⟩) hW (fun r4 ad1 w2 H5 locs hp3 hW => ?_)
  exact ke_q hx hb hr (Or.inr ⟨_, rfl⟩) hlocks (Nat.le_of_ble_eq_true rfl) (Nat.le_of_ble_eq_true rfl) dJx4a65c_grow_d5877_10 rfl hW (hp3)

set_option maxHeartbeats 4000000 in
set_option maxRecDepth 100000 in
/-- c_add3 -/
theorem c_add3 (l : Launch) (D : va_G) (A : Nat → Prop) (ad : Nat → Nat) (w : kWd) (kl ka ck n ke : Nat) (key : Nat → Nat) (mc : Int32) (cap : Nat) (f : Nat → Option Nat) (e0 : Nat) (fe : List Value) (hA9 : LX D kl ka n key ad w mc cap f e0) (hn : n ≤ 600) (hka : ka ≠ 7) (hkl : kl ≠ 7) (hlk : kl ≠ ka) (hk2 : ck = 2 ∨ ck = 5) (hel : ∀ i, i < n → (∃ fs, w (key i) = some (.inr (ck, fs))) ∧ key i ≠ 7 ∧ key i ≠ ka) (hke : w ke = some (.inr (ck, fe))) (hkn : key n = ke) (hk7 : ke ≠ 7 ∧ ke ≠ ka ∧ ke ≠ kl) : Met l yJx4a65c_add_72be8 wsJx4a65c_add_72be8 ({ frames := 5, cells := 1, slots := 2000, locals := 187 }) (kPc D A [.ref (ad kl), .ref (ad ke), .ref e0, .int (nI n)] ad w) (kQv D A (fun ad' w' => AL D kl ka (n + 1) key ad' w' ∧ FrL kl ka ad w ad' w')) 1 2000 A := by
  refine Met.ofW (cc := cJx4a65c_add_72be8) (maxL := 4) (ret := none) (by decide) rfl ?_
  intro p e s m args below meth c s₁ B hml hv
  obtain ⟨rfl, hE, hW0, hI0, hA⟩ := hv
  have hx := B.exec
  have hb := B.bytes
  have hr := B.returns
  have hts := atoms_spec (ws := wsJx4a65c_add_72be8) B.pre
  have hown : s.vm.findClass RJx4a65c = some m.cls := findClass_of_methodNamed B.named
  have hlocks := B.notSynchronized
  have hiRJx4a65c : ∀ w ∈ wsJx4a65c0, w ∈ wsJx4a65c_add_72be8 := by decide +kernel
  have hW : kS D A s.heap ad w s.heap [] := ⟨hW0, hI0, va_S.rf, hA⟩
  have hl := lv_entry ([.ref (ad kl), .ref (ad ke), .ref e0, .int (nI n)]) (n := 4) (Nat.le_of_ble_eq_true rfl)
  rw [lg_entry_eq]
  generalize (lg_sl ([.ref (ad kl), .ref (ad ke), .ref e0, .int (nI n)]) ++ List.replicate (4 - (lg_sl ([.ref (ad kl), .ref (ad ke), .ref e0, .int (nI n)])).length) Slot.unset).toArray = ls at hl ⊢
  have hl : lv_has ls 4 [(0, .ref (ad kl)), (1, .ref (ad ke)), (2, .ref e0), (3, .int (nI n))] := hl
  obtain ⟨h1, h2, h3, h4, h5⟩ := id hA9
  refine lv_iload_n hx hb dJx4a65c_add_72be8_0 rfl (lv_at hl 3 rfl) ?_
  refine lv_aload_n hx hb dJx4a65c_add_72be8_1 rfl (lv_at hl 2 rfl) ?_
  refine W_join0 (P := True) (pj := 3) (rj := [.int (nI cap), .int (nI n)]) (lj := ls) (fun _ => ?_) (fun J3 => ?_)
  · by_cases hcn : n = cap
    · subst hcn
      refine lv_icmp_ne (tgt := 11) hx hb dJx4a65c_add_72be8_3 (by decide) (fun c9 => absurd c9 (fun q => q rfl)) (fun _ => ?_)
      refine lv_aload_n hx hb dJx4a65c_add_72be8_6 rfl (lv_at hl 0 rfl) ?_
      refine kk_q (va_runV (As := []) (rest := []) ⟨hx, hb, hml, hown, hts⟩ (c_grow0 l D A ad w kl ka ck n key mc f e0 hA9 hn hka hkl hlk hk2 hel) (cwV 0 hts gJx4a65c_add_72be8_Jx4a65c_grow_d5877 rfl rfl rfl (by decide +kernel) ⟨Nat.le_of_ble_eq_true rfl, Nat.le_of_ble_eq_true rfl⟩) (kV hE hW h1 rfl _) rfl rfl hl.1 rfl (lv_room (Nat.le_of_ble_eq_true rfl)) dJx4a65c_add_72be8_7 ⟨Nat.le_of_ble_eq_true rfl, Nat.le_of_ble_eq_true rfl⟩) hW (fun r4 ad1 w2 H5 locs hp3 hW => ?_)
      obtain ⟨cap, g, rfl, g1, g2, g3, g4, g5, g6⟩ := hp3
      have a1 : ad1 kl = ad kl := g6.2 kl hlk hkl
      have a2 : ad1 ke = ad ke := g6.2 ke hk7.2.1 hk7.1
      have g7 := (g6.1 ke hk7.2.2 hk7.2.1 hk7.1).trans hke
      rw [← a1, ← a2] at hl
      refine lv_astore_n (lv' := [(2, .ref (ad1 ka)), (0, .ref (ad1 kl)), (1, .ref (ad1 ke)), (3, .int (nI n))]) hx hb dJx4a65c_add_72be8_10 rfl hl (by decide) rfl (fun ls hl => ?_)
      refine lv_aload_n hx hb dJx4a65c_add_72be8_11 rfl (lv_at hl 0 rfl) ?_
      refine lv_iload_n hx hb dJx4a65c_add_72be8_12 rfl (lv_at hl 3 rfl) ?_
      refine lv_aload_n hx hb dJx4a65c_add_72be8_13 rfl (lv_at hl 2 rfl) ?_
      refine kk_aast hx hb hE hW 6 rfl g3 (kv := ke) g7 (r := vwCl.getD ck (RX1, TX1, 4)) (by rcases hk2 with rfl | rfl <;> rfl) (kAsg hE hk2 (by rcases hk2 with rfl | rfl <;> rfl)) (vp_in_nI (show n < cap by omega) (by omega)) dJx4a65c_add_72be8_14 (fun H locs w5 e5 hW => ?_)
      rw [show (nI n).toNatClampNeg = n from nv_nI (by omega)] at e5
      have k1 := (up_n e5 hlk).trans g2.1
      have k2 := up_s e5
      refine lv_aload_n hx hb dJx4a65c_add_72be8_15 rfl (lv_at hl 1 rfl) ?_
      refine lv_iload_n hx hb dJx4a65c_add_72be8_16 rfl (lv_at hl 3 rfl) ?_
      refine lv_iconst (v := 1) hx hb dJx4a65c_add_72be8_17 (by decide) ?_
      refine lv_iadd hx hb dJx4a65c_add_72be8_18 ?_
      rw [nI_1]
      refine kk_put hx hb hts hown hE hW k1 rfl hiRJx4a65c tyJx4a65c tyJx4a65c_ok nmJx4a65c 2 (by decide) (hts (.fieldLink RJx4a65c 48 "java/util/ArrayList" "size" "I") (by decide +kernel)) (fun _ h9 => h9) rfl (ty := tyJx4a65c 2) (tyJx4a65c_ok 2 (by decide)) rfl rfl (Nat.le_of_ble_eq_true rfl) dJx4a65c_add_72be8_19 (fun H8 locs w6 e7 hW => ?_)
      have f9 := (up_n e7 (Ne.symm hlk)).trans k2
      have f10 := up_s e7
      refine ke_v hx hb hr hlocks (Nat.le_of_ble_eq_true rfl) (Nat.le_of_ble_eq_true rfl) dJx4a65c_add_72be8_22 hW (⟨⟨_, _, _, _, f10, by omega, by omega, Or.inr ⟨by omega, rfl, f9⟩, fun i hi => ?_⟩, fun k q1 q2 q3 => (up_n e7 q1).trans ((up_n e5 q2).trans (g6.1 k q1 q2 q3)), fun k q2 q3 => g6.2 k q2 q3⟩)
      by_cases c : i = n
      · subst c
        rw [va_up_self, hkn]
      · rw [va_up_ne _ _ c]
        exact g2.2.2.2.2 i (by omega)
    · rcases h4 with ⟨h4, -⟩ | ⟨h4, rfl, h6⟩
      · omega
      refine lv_icmp_ne (tgt := 11) hx hb dJx4a65c_add_72be8_3 (by decide) (fun _ => ?_) (fun c9 => absurd c9 (fun q => hcn ((nI_eq (a := n) (b := cap) (by omega) (by omega)).mp q)))
      refine lv_aload_n hx hb dJx4a65c_add_72be8_11 rfl (lv_at hl 2 rfl) ?_
      refine lv_iload_n hx hb dJx4a65c_add_72be8_12 rfl (lv_at hl 3 rfl) ?_
      refine lv_aload_n hx hb dJx4a65c_add_72be8_13 rfl (lv_at hl 1 rfl) ?_
      refine kk_aast hx hb hE hW 6 rfl h6 (kv := ke) hke (r := vwCl.getD ck (RX1, TX1, 4)) (by rcases hk2 with rfl | rfl <;> rfl) (kAsg hE hk2 (by rcases hk2 with rfl | rfl <;> rfl)) (vp_in_nI (show n < cap by omega) (by omega)) dJx4a65c_add_72be8_14 (fun H locs w5 e5 hW => ?_)
      rw [show (nI n).toNatClampNeg = n from nv_nI (by omega)] at e5
      have k1 := (up_n e5 hlk).trans h1
      have k2 := up_s e5
      refine lv_aload_n hx hb dJx4a65c_add_72be8_15 rfl (lv_at hl 0 rfl) ?_
      refine lv_iload_n hx hb dJx4a65c_add_72be8_16 rfl (lv_at hl 3 rfl) ?_
      refine lv_iconst (v := 1) hx hb dJx4a65c_add_72be8_17 (by decide) ?_
      refine lv_iadd hx hb dJx4a65c_add_72be8_18 ?_
      rw [nI_1]
      refine kk_put hx hb hts hown hE hW k1 rfl hiRJx4a65c tyJx4a65c tyJx4a65c_ok nmJx4a65c 2 (by decide) (hts (.fieldLink RJx4a65c 48 "java/util/ArrayList" "size" "I") (by decide +kernel)) (fun _ h9 => h9) rfl (ty := tyJx4a65c 2) (tyJx4a65c_ok 2 (by decide)) rfl rfl (Nat.le_of_ble_eq_true rfl) dJx4a65c_add_72be8_19 (fun H13 locs w11 e12 hW => ?_)
      have f14 := (up_n e12 (Ne.symm hlk)).trans k2
      have f15 := up_s e12
      refine ke_v hx hb hr hlocks (Nat.le_of_ble_eq_true rfl) (Nat.le_of_ble_eq_true rfl) dJx4a65c_add_72be8_22 hW (⟨⟨_, _, _, _, f15, by omega, by omega, Or.inr ⟨by omega, rfl, f14⟩, fun i hi => ?_⟩, fun k q1 q2 q3 => (up_n e12 q1).trans ((up_n e5 q2).trans (rfl)), fun k q2 q3 => rfl⟩)
      by_cases c : i = n
      · subst c
        rw [va_up_self, hkn]
      · rw [va_up_ne _ _ c]
        exact h5 i (by omega)
  · rcases h4 with ⟨rfl, rfl⟩ | ⟨h4, rfl, h6⟩
    · refine va_tlen hx hb hE.2.2.2.2.1 hW.2.2.1 (v := nI 0) rfl dJx4a65c_add_72be8_2 ?_
      exact J3 trivial
    · refine kk_alen hx hb hE hW 6 h6 rfl (v := nI cap) rfl dJx4a65c_add_72be8_2 ?_
      exact J3 trivial

set_option maxHeartbeats 4000000 in
set_option maxRecDepth 100000 in
/-- c_add -/
theorem c_add (l : Launch) (D : va_G) (A : Nat → Prop) (ad : Nat → Nat) (w : kWd) (kl ka ck n ke : Nat) (key : Nat → Nat) (fe : List Value) (hA9 : AL D kl ka n key ad w) (hn : n ≤ 600) (hka : ka ≠ 7) (hkl : kl ≠ 7) (hlk : kl ≠ ka) (hk2 : ck = 2 ∨ ck = 5) (hel : ∀ i, i < n → (∃ fs, w (key i) = some (.inr (ck, fs))) ∧ key i ≠ 7 ∧ key i ≠ ka ∧ key i ≠ kl) (hke : w ke = some (.inr (ck, fe))) (hkn : key n = ke) (hk7 : ke ≠ 7 ∧ ke ≠ ka ∧ ke ≠ kl) : Met l yJx4a65c_add_9ea2d wsJx4a65c_add_9ea2d ({ frames := 6, cells := 1, slots := 2000, locals := 210 }) (kPc D A [.ref (ad kl), .ref (ad ke)] ad w) (kQi D A (fun v ad' w' => v = 1 ∧ AL D kl ka (n + 1) key ad' w' ∧ FrL kl ka ad w ad' w')) 1 2000 A := by
  refine Met.ofW (cc := cJx4a65c_add_9ea2d) (maxL := 2) (ret := (some (.boolean))) (by decide) rfl ?_
  intro p e s m args below meth c s₁ B hml hv
  obtain ⟨rfl, hE, hW0, hI0, hA⟩ := hv
  have hx := B.exec
  have hb := B.bytes
  have hr := B.returns
  have hts := atoms_spec (ws := wsJx4a65c_add_9ea2d) B.pre
  have hown : s.vm.findClass RJx4a65c = some m.cls := findClass_of_methodNamed B.named
  have hlocks := B.notSynchronized
  have hiRJx4a65c : ∀ w ∈ wsJx4a65c0, w ∈ wsJx4a65c_add_9ea2d := by decide +kernel
  have hW : kS D A s.heap ad w s.heap [] := ⟨hW0, hI0, va_S.rf, hA⟩
  have hl := lv_entry ([.ref (ad kl), .ref (ad ke)]) (n := 2) (Nat.le_of_ble_eq_true rfl)
  rw [lg_entry_eq]
  generalize (lg_sl ([.ref (ad kl), .ref (ad ke)]) ++ List.replicate (2 - (lg_sl ([.ref (ad kl), .ref (ad ke)])).length) Slot.unset).toArray = ls at hl ⊢
  have hl : lv_has ls 2 [(0, .ref (ad kl)), (1, .ref (ad ke))] := hl
  obtain ⟨mc, cap, f, e0, h1, h2, h3, h4, h5⟩ := hA9
  refine lv_aload_n hx hb dJx4a65c_add_9ea2d_0 rfl (lv_at hl 0 rfl) ?_
  refine lv_dup hx hb dJx4a65c_add_9ea2d_1 rfl ?_
  refine kk_get hx hb hts hown hE hW h1 rfl hiRJx4a65c 0 (by decide) (hts (.fieldLink RJx4a65c 63 "java/util/ArrayList" "modCount" "I") (by decide +kernel)) (fun x9 h9 => u_same (hts (.sameField "java/util/ArrayList" "java/util/AbstractList" "modCount" "I") (by decide +kernel)) x9 h9) rfl dJx4a65c_add_9ea2d_2 ?_
  refine lv_iconst (v := 1) hx hb dJx4a65c_add_9ea2d_5 (by decide) ?_
  refine lv_iadd hx hb dJx4a65c_add_9ea2d_6 ?_
  refine kk_put hx hb hts hown hE hW h1 rfl hiRJx4a65c tyJx4a65c tyJx4a65c_ok nmJx4a65c 0 (by decide) (hts (.fieldLink RJx4a65c 63 "java/util/ArrayList" "modCount" "I") (by decide +kernel)) (fun x9 h9 => u_same (hts (.sameField "java/util/ArrayList" "java/util/AbstractList" "modCount" "I") (by decide +kernel)) x9 h9) rfl (ty := tyJx4a65c 0) (tyJx4a65c_ok 0 (by decide)) rfl rfl (Nat.le_of_ble_eq_true rfl) dJx4a65c_add_9ea2d_7 (fun H3 locs w1 e2 hW => ?_)
  have f4 := up_s e2
  have hA9 : LX D kl ka n key ad w1 (mc + 1) cap f e0 := ⟨f4, h2, h3, h4.imp id (fun q => ⟨q.1, q.2.1, (up_n e2 (Ne.symm hlk)).trans q.2.2⟩), h5⟩
  have hel9 : ∀ i, i < n → (∃ fs, w1 (key i) = some (.inr (ck, fs))) ∧ key i ≠ 7 ∧ key i ≠ ka := fun i hi => ⟨by obtain ⟨⟨fs, q⟩, q1, q2, q3⟩ := hel i hi; exact ⟨fs, (up_n e2 q3).trans q⟩, (hel i hi).2.1, (hel i hi).2.2.1⟩
  refine lv_aload_n hx hb dJx4a65c_add_9ea2d_10 rfl (lv_at hl 0 rfl) ?_
  refine lv_aload_n hx hb dJx4a65c_add_9ea2d_11 rfl (lv_at hl 1 rfl) ?_
  refine lv_aload_n hx hb dJx4a65c_add_9ea2d_12 rfl (lv_at hl 0 rfl) ?_
  refine kk_get hx hb hts hown hE hW f4 rfl hiRJx4a65c 1 (by decide) (hts (.fieldLink RJx4a65c 9 "java/util/ArrayList" "elementData" "[Ljava/lang/Object;") (by decide +kernel)) (fun _ h9 => h9) rfl dJx4a65c_add_9ea2d_13 ?_
  refine lv_aload_n hx hb dJx4a65c_add_9ea2d_16 rfl (lv_at hl 0 rfl) ?_
  refine kk_get hx hb hts hown hE hW f4 rfl hiRJx4a65c 2 (by decide) (hts (.fieldLink RJx4a65c 48 "java/util/ArrayList" "size" "I") (by decide +kernel)) (fun _ h9 => h9) rfl dJx4a65c_add_9ea2d_17 ?_
  refine kk_v (va_runV (As := [.ref (ad ke), .ref e0, .int (nI n)]) (rest := []) ⟨hx, hb, hml, hown, hts⟩ (c_add3 l D A ad w1 kl ka ck n ke key (mc + 1) cap f e0 fe hA9 hn hka hkl hlk hk2 hel9 ((up_n e2 hk7.2.2).trans hke) hkn hk7) (cwV 3 hts gJx4a65c_add_9ea2d_Jx4a65c_add_72be8 rfl rfl rfl (by decide +kernel) ⟨Nat.le_of_ble_eq_true rfl, Nat.le_of_ble_eq_true rfl⟩) (kV hE hW f4 rfl _) rfl rfl hl.1 rfl (lv_room (Nat.le_of_ble_eq_true rfl)) dJx4a65c_add_9ea2d_20 ⟨Nat.le_of_ble_eq_true rfl, Nat.le_of_ble_eq_true rfl⟩) hW (fun ad5 w6 H9 locs hp7 hW => ?_)
  refine lv_iconst (v := 1) hx hb dJx4a65c_add_9ea2d_23 (by decide) ?_
  exact ke_z hx hb hr hlocks (Nat.le_of_ble_eq_true rfl) (Nat.le_of_ble_eq_true rfl) dJx4a65c_add_9ea2d_24 (Or.inr rfl) hW (⟨rfl, hp7.1, fun k q1 q2 q3 => (hp7.2.1 k q1 q2 q3).trans (up_n e2 q1), fun k q2 q3 => hp7.2.2 k q2 q3⟩)

