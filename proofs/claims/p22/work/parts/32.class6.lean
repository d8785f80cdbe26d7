/-! the class's public methods -/
theorem opK_0 {S : St} {t : Int32} (h : trP S t) (h2 : actP S t) : opK S t = 0 := (if_pos h).trans (if_pos h2)
theorem opK_1 {S : St} {t : Int32} (h : ¬ trP S t) : opK S t = 1 := if_neg h
theorem opK_2 {S : St} {t : Int32} (h : trP S t) (h2 : ¬ actP S t) : opK S t = 2 := (if_pos h).trans (if_neg h2)
theorem r1K_0 {S : St} {t r : Int32} (h : trP S t) (hr : roP r) (h2 : actP S t) : r1K S t r = 0 := (if_pos ⟨h, hr⟩).trans (if_pos h2)
theorem r1K_1 {S : St} {t r : Int32} (h : ¬ (trP S t ∧ roP r)) : r1K S t r = 1 := if_neg h
theorem r1K_2 {S : St} {t r : Int32} (h : trP S t) (hr : roP r) (h2 : ¬ actP S t) : r1K S t r = 2 := (if_pos ⟨h, hr⟩).trans (if_neg h2)
theorem noK_0 {r : Int32} (h : roP r) : noK r = 0 := if_pos h
theorem noK_1 {r : Int32} (h : ¬ roP r) : noK r = 1 := if_neg h
theorem soK_0 {b k : Int32} (h : slP b k) : soK b k = 0 := if_pos h
theorem soK_1 {b k : Int32} (h : ¬ slP b k) : soK b k = 1 := if_neg h
theorem vrK_0 {S : St} {m r : Int32} (h : roP r) (h2 : inP m 0 (S 11 0)) : vrK S m r = 0 := (if_pos h).trans (if_pos h2)
theorem vrK_1 {S : St} {m r : Int32} (h : ¬ roP r) : vrK S m r = 1 := if_neg h
theorem vrK_2 {S : St} {m r : Int32} (h : roP r) (h2 : ¬ inP m 0 (S 11 0)) : vrK S m r = 2 := (if_pos h).trans (if_neg h2)
theorem ssK_0 {S : St} {z : Int32} (h : inP z 1 30) (h2 : S 13 0 - S 14 0 ≤ z) : ssK S z = 0 := (if_pos h).trans (if_pos h2)
theorem ssK_1 {S : St} {z : Int32} (h : ¬ inP z 1 30) : ssK S z = 1 := if_neg h
theorem ssK_2 {S : St} {z : Int32} (h : inP z 1 30) (h2 : ¬ S 13 0 - S 14 0 ≤ z) : ssK S z = 2 := (if_pos h).trans (if_neg h2)
theorem wrK_0 {S : St} {t r v : Int32} (h : trP S t ∧ roP r) (h2 : goodP v) (h3 : wrP S t r v) : wrK S t r v = 0 := (if_pos h).trans ((if_pos h2).trans (if_pos h3))
theorem wrK_1 {S : St} {t r v : Int32} (h : ¬ (trP S t ∧ roP r)) : wrK S t r v = 1 := if_neg h
theorem wrK_2 {S : St} {t r v : Int32} (h : trP S t ∧ roP r) (h2 : ¬ goodP v) : wrK S t r v = 2 := (if_pos h).trans (if_neg h2)
theorem wrK_3 {S : St} {t r v : Int32} (h : trP S t ∧ roP r) (h2 : goodP v) (h3 : ¬ wrP S t r v) : wrK S t r v = 3 := (if_pos h).trans ((if_pos h2).trans (if_neg h3))
theorem unL_n {t : Int32} {c : Nat} (h0 : c ≠ 0) (h7 : c ≠ 7) : ∀ (n : Nat) (z : Int32) (S : St), unL t n z S c = S c
  | 0, _, _ => rfl
  | n + 1, z, S => by
    show (if 0 < z then (if S 4 n = t ∧ S 7 n = 0 then unL t n (z - 1) (un1 S n) else unL t n z S) else S) c = S c
    by_cases q : 0 < z
    · rw [if_pos q]
      by_cases d : S 4 n = t ∧ S 7 n = 0
      · rw [if_pos d, unL_n h0 h7 n]
        exact (sU_n h0).trans (sU_n h7)
      · rw [if_neg d, unL_n h0 h7 n]
    · rw [if_neg q]
set_option maxHeartbeats 4000000 in
set_option maxRecDepth 100000 in
/-- k_X5_setSpace -/
theorem k_X5_setSpace (l : Launch) (hnt : l.stackTraces = false) (D : va_G) (A : Nat → Prop) (ad : Nat → Nat) (w : kWd) (S : St) (nT nC nD nM nZ : Nat) (hC : CW D S ad w nT nC) (hN : SN S nT nC nD nM nZ) (z : Int32) : vx_Met l yX5_setSpace wsX5_setSpace ({ frames := 6, cells := 8, slots := 60, locals := 100 }) (kPc D A [.ref (ad 0), .int z] ad w) (kQi D A (fun v ad' w' => v = S 10 0 ∧ ssK S z = 0 ∧ ad' = ad ∧ CW D (sS S 10 z) ad w' nT nC ∧ FrC ad w ad w')) (kX D A (fun E => (E = xIA ∧ ssK S z = 1) ∨ (E = xIS ∧ ssK S z = 2)) ad w) 8 60 A := by
  refine vx_ofW (cc := cX5_setSpace) (maxL := 3) (ret := (some (.int))) (by decide) rfl ?_
  intro p e s m args below meth c s₁ B hml hout hv
  obtain ⟨rfl, hE, hW0, hI0, hA⟩ := hv
  have hx := B.exec
  have hb := B.bytes
  have hr := B.returns
  have hts := atoms_spec (ws := wsX5_setSpace) B.pre
  have hown : s.vm.findClass RX5 = some m.cls := findClass_of_methodNamed B.named
  have hlocks := B.notSynchronized
  have hiRX5 : ∀ w ∈ wsX50, w ∈ wsX5_setSpace := by decide +kernel
  have hW : kS D A s.heap ad w s.heap [] := ⟨hW0, hI0, va_S.rf, hA⟩
  have hl := lv_entry ([.ref (ad 0), .int z]) (n := 3) (Nat.le_of_ble_eq_true rfl)
  rw [lg_entry_eq]
  generalize (lg_sl ([.ref (ad 0), .int z]) ++ List.replicate (3 - (lg_sl ([.ref (ad 0), .int z])).length) Slot.unset).toArray = ls at hl ⊢
  have hl : lv_has ls 3 [(0, .ref (ad 0)), (1, .int z)] := hl
  refine lv_iload_n hx hb dX5_setSpace_0 rfl (lv_at hl 1 rfl) ?_
  refine lv_iconst (v := 1) hx hb dX5_setSpace_1 (by decide) ?_
  refine lv_icmp_lt (tgt := 11) hx hb dX5_setSpace_2 (by decide) (fun c1 => ?_) (fun c1 => ?_)
  · exact kk_throw kf_IA hx hb hnt hown (fun w h => hts w (List.mem_cons_of_mem _ (List.mem_append_left _ (List.mem_append_right _ h)))) (hts (.classLink RX5 48 "java/lang/IllegalArgumentException") (by decide +kernel)) (hts (.initialized "java/lang/IllegalArgumentException") (by decide +kernel)) hE hW (hl.1.trans hml.symm) (hE.R 0 rfl) dX5_setSpace_11 dX5_setSpace_14 dX5_setSpace_15 dX5_setSpace_17 dX5_setSpace_20 hout ⟨Nat.le_of_ble_eq_true rfl, Nat.le_of_ble_eq_true rfl, Nat.le_of_ble_eq_true rfl, Nat.le_of_ble_eq_true rfl⟩ hlocks (Or.inl ⟨rfl, ssK_1 (fun q => q.1 c1)⟩) (Nat.le_of_ble_eq_true rfl) (Nat.le_of_ble_eq_true rfl)
  · refine lv_iload_n hx hb dX5_setSpace_5 rfl (lv_at hl 1 rfl) ?_
    refine lv_bipush (v := 30) hx hb dX5_setSpace_6 (by decide) ?_
    refine lv_icmp_le (tgt := 21) hx hb dX5_setSpace_8 (by decide) (fun c2 => ?_) (fun c2 => ?_)
    · refine lv_aload_n hx hb dX5_setSpace_21 rfl (lv_at hl 0 rfl) ?_
      refine kk_i (va_runV (As := []) (rest := []) ⟨hx, hb, hml, hown, hts⟩ (k_X5_recordsThere l D A ad w S nT nC nD nM nZ hC hN) (cwV 0 hts gX5_setSpace_X5_recordsThere rfl rfl rfl (by decide +kernel) ⟨Nat.le_of_ble_eq_true rfl, Nat.le_of_ble_eq_true rfl⟩) (kV hE hW hC.u rfl _) rfl rfl hl.1 rfl (lv_room (Nat.le_of_ble_eq_true rfl)) dX5_setSpace_22 ⟨Nat.le_of_ble_eq_true rfl, Nat.le_of_ble_eq_true rfl⟩) hW (fun r6 ad3 w4 H7 locs hp5 hW => ?_)
      obtain ⟨e8, e9, e10⟩ := hp5
      rw [e9, e10] at hW
      subst e8
      refine lv_iload_n hx hb dX5_setSpace_25 rfl (lv_at hl 1 rfl) ?_
      have hin : inP z 1 30 := ⟨c1, Int32.not_lt.mpr c2⟩
      refine lv_icmp_le (tgt := 39) hx hb dX5_setSpace_26 (by decide) (fun c11 => ?_) (fun c11 => ?_)
      · refine lv_aload_n hx hb dX5_setSpace_39 rfl (lv_at hl 0 rfl) ?_
        refine kk_get hx hb hts hown hE hW hC.u rfl hiRX5 4 (by decide) (hts (.fieldLink RX5 31 "UndoCellar" "space" "I") (by decide +kernel)) (fun _ h9 => h9) rfl dX5_setSpace_40 ?_
        refine lv_istore_n (lv' := [(2, .int (S 10 0)), (0, .ref (ad 0)), (1, .int z)]) hx hb dX5_setSpace_43 rfl hl (by decide) rfl (fun ls hl => ?_)
        refine lv_aload_n hx hb dX5_setSpace_44 rfl (lv_at hl 1 rfl) ?_
        refine lv_iload_n hx hb dX5_setSpace_45 rfl (lv_at hl 2 rfl) ?_
        refine kk_put hx hb hts hown hE hW hC.u rfl hiRX5 tyX5 tyX5_ok nmX5 4 (by decide) (hts (.fieldLink RX5 31 "UndoCellar" "space" "I") (by decide +kernel)) (fun _ h9 => h9) rfl (ty := tyX5 4) (tyX5_ok 4 (by decide)) rfl rfl (Nat.le_of_ble_eq_true rfl) dX5_setSpace_46 (fun H14 locs w12 e13 hW => ?_)
        have f15 := up_s e13
        refine lv_iload_n hx hb dX5_setSpace_49 rfl (lv_at hl 0 rfl) ?_
        exact vx_ret (ke_i hx hb hr hlocks (Nat.le_of_ble_eq_true rfl) (Nat.le_of_ble_eq_true rfl) dX5_setSpace_50 hW (⟨rfl, ssK_0 hin c11, rfl, hC.upU (S' := sS S 10 z) e13 (fun c h => sU_n (by omega)), FrC.rf.up e13 (by omega)⟩))
      · exact kk_throw kf_IS hx hb hnt hown (fun w h => hts w (List.mem_cons_of_mem _ (List.mem_append_right _ h))) (hts (.classLink RX5 59 "java/lang/IllegalStateException") (by decide +kernel)) (hts (.initialized "java/lang/IllegalStateException") (by decide +kernel)) hE hW (hl.1.trans hml.symm) (hE.R 1 rfl) dX5_setSpace_29 dX5_setSpace_32 dX5_setSpace_33 dX5_setSpace_35 dX5_setSpace_38 hout ⟨Nat.le_of_ble_eq_true rfl, Nat.le_of_ble_eq_true rfl, Nat.le_of_ble_eq_true rfl, Nat.le_of_ble_eq_true rfl⟩ hlocks (Or.inr ⟨rfl, ssK_2 hin (Int32.not_le.mpr (Int32.not_le.mp c11))⟩) (Nat.le_of_ble_eq_true rfl) (Nat.le_of_ble_eq_true rfl)
    · exact kk_throw kf_IA hx hb hnt hown (fun w h => hts w (List.mem_cons_of_mem _ (List.mem_append_left _ (List.mem_append_right _ h)))) (hts (.classLink RX5 48 "java/lang/IllegalArgumentException") (by decide +kernel)) (hts (.initialized "java/lang/IllegalArgumentException") (by decide +kernel)) hE hW (hl.1.trans hml.symm) (hE.R 0 rfl) dX5_setSpace_11 dX5_setSpace_14 dX5_setSpace_15 dX5_setSpace_17 dX5_setSpace_20 hout ⟨Nat.le_of_ble_eq_true rfl, Nat.le_of_ble_eq_true rfl, Nat.le_of_ble_eq_true rfl, Nat.le_of_ble_eq_true rfl⟩ hlocks (Or.inl ⟨rfl, ssK_1 (fun q => q.2 (Int32.not_le.mp c2))⟩) (Nat.le_of_ble_eq_true rfl) (Nat.le_of_ble_eq_true rfl)

set_option maxHeartbeats 4000000 in
set_option maxRecDepth 100000 in
/-- k_X5_save -/
theorem k_X5_save (l : Launch) (hnt : l.stackTraces = false) (D : va_G) (A : Nat → Prop) (ad : Nat → Nat) (w : kWd) (S : St) (nT nC nD nM nZ : Nat) (hC : CW D S ad w nT nC) (hN : SN S nT nC nD nM nZ) (i : Int32) : vx_Met l yX5_save wsX5_save ({ frames := 7, cells := 8, slots := 60, locals := 121 }) (kPc D A [.ref (ad 0), .int i] ad w) (kQi D A (fun v ad' w' => v = stV S i ∧ opK S i = 0 ∧ ad' = ad ∧ w' = w)) (kX D A (fun E => (E = xIO ∧ opK S i = 1) ∨ (E = xIS ∧ opK S i = 2)) ad w) 8 60 A := by
  refine vx_ofW (cc := cX5_save) (maxL := 3) (ret := (some (.int))) (by decide) rfl ?_
  intro p e s m args below meth c s₁ B hml hout hv
  obtain ⟨rfl, hE, hW0, hI0, hA⟩ := hv
  have hx := B.exec
  have hb := B.bytes
  have hr := B.returns
  have hts := atoms_spec (ws := wsX5_save) B.pre
  have hown : s.vm.findClass RX5 = some m.cls := findClass_of_methodNamed B.named
  have hlocks := B.notSynchronized
  have hiRX4 : ∀ w ∈ wsX40, w ∈ wsX5_save := by decide +kernel
  have hW : kS D A s.heap ad w s.heap [] := ⟨hW0, hI0, va_S.rf, hA⟩
  have hl := lv_entry ([.ref (ad 0), .int i]) (n := 3) (Nat.le_of_ble_eq_true rfl)
  rw [lg_entry_eq]
  generalize (lg_sl ([.ref (ad 0), .int i]) ++ List.replicate (3 - (lg_sl ([.ref (ad 0), .int i])).length) Slot.unset).toArray = ls at hl ⊢
  have hl : lv_has ls 3 [(0, .ref (ad 0)), (1, .int i)] := hl
  have h60 := hN.2.2.2.2.2.1
  have h512 := hN.2.2.2.2.2.2.1
  have hnv : nv (S 13 0) = nC := by rw [hN.2.1]; exact nv_nI (by omega)
  refine lv_aload_n hx hb dX5_save_0 rfl (lv_at hl 0 rfl) ?_
  refine lv_iload_n hx hb dX5_save_1 rfl (lv_at hl 1 rfl) ?_
  refine kx_q (vx_runV (As := [.int i]) (rest := []) ⟨hx, hb, hml, hown, hts⟩ (k_X5_transactionNumbered l hnt D A ad w S nT nC nD nM nZ hC hN i) (cwV 1 hts gX5_save_X5_transactionNumbered rfl rfl rfl (by decide +kernel) ⟨Nat.le_of_ble_eq_true rfl, Nat.le_of_ble_eq_true rfl⟩) (kV hE hW hC.u rfl _) rfl rfl hl.1 rfl (lv_room (Nat.le_of_ble_eq_true rfl)) dX5_save_2 ⟨Nat.le_of_ble_eq_true rfl, Nat.le_of_ble_eq_true rfl⟩) hW (kx_out hout hlocks (Nat.le_of_ble_eq_true rfl) (Nat.le_of_ble_eq_true rfl) (fun E h9 => ⟨Or.inl ⟨h9.1, opK_1 h9.2⟩, rfl, rfl⟩)) (fun r4 ad1 w2 H5 locs hp3 hW => ?_)
  obtain ⟨e6, q9, e7, e8⟩ := hp3
  rw [e7, e8] at hW
  subst e6
  obtain ⟨j, hj, rfl⟩ := (trP_iff hN).mp q9
  have qj : trP S (nI j) := (trP_iff hN).mpr ⟨j, hj, rfl⟩
  have nj : nv (nI j) = j := nv_nI (by omega)
  refine W.eq (g2 := F0 m 5 ls [.ref (ad (tkey j))]) (by rw [nv_nI (by omega)]; rfl) ?_
  refine lv_astore_n (lv' := [(2, .ref (ad (tkey j))), (0, .ref (ad 0)), (1, .int (nI j))]) hx hb dX5_save_5 rfl hl (by decide) rfl (fun ls hl => ?_)
  refine lv_aload_n hx hb dX5_save_6 rfl (lv_at hl 1 rfl) ?_
  refine lv_aload_n hx hb dX5_save_7 rfl (lv_at hl 0 rfl) ?_
  refine kx_v (vx_runV (As := [.ref (ad (tkey j))]) (rest := []) ⟨hx, hb, hml, hown, hts⟩ (k_X5_refuseIfEnded l hnt D A ad w S nT nC nD nM nZ hC hN j hj) (cwV 1 hts gX5_save_X5_refuseIfEnded rfl rfl rfl (by decide +kernel) ⟨Nat.le_of_ble_eq_true rfl, Nat.le_of_ble_eq_true rfl⟩) (kV hE hW hC.u rfl _) rfl rfl hl.1 rfl (lv_room (Nat.le_of_ble_eq_true rfl)) dX5_save_8 ⟨Nat.le_of_ble_eq_true rfl, Nat.le_of_ble_eq_true rfl⟩) hW (kx_out hout hlocks (Nat.le_of_ble_eq_true rfl) (Nat.le_of_ble_eq_true rfl) (fun E h9 => ⟨Or.inr ⟨h9.1, opK_2 qj (by unfold actP; rw [nj]; exact h9.2)⟩, rfl, rfl⟩)) (fun ad10 w11 H14 locs hp12 hW => ?_)
  obtain ⟨q18, e16, e17⟩ := hp12
  rw [e16, e17] at hW
  have aaj : actP S (nI j) := by unfold actP; rw [nj]; exact q18
  refine lv_aload_n hx hb dX5_save_11 rfl (lv_at hl 0 rfl) ?_
  refine kk_getN hx hb hts hown hE hW (hC.t hj) rfl hiRX4 4 (by decide) (hE.N 14 rfl) (fun _ h9 => h9) rfl dX5_save_12 ?_
  exact vx_ret (ke_i hx hb hr hlocks (Nat.le_of_ble_eq_true rfl) (Nat.le_of_ble_eq_true rfl) dX5_save_15 hW (⟨by unfold stV; rw [hnv], opK_0 qj aaj, rfl, rfl⟩))

set_option maxHeartbeats 4000000 in
set_option maxRecDepth 100000 in
/-- k_X5_now -/
theorem k_X5_now (l : Launch) (hnt : l.stackTraces = false) (D : va_G) (A : Nat → Prop) (ad : Nat → Nat) (w : kWd) (S : St) (nT nC nD nM nZ : Nat) (hC : CW D S ad w nT nC) (hN : SN S nT nC nD nM nZ) (r : Int32) : vx_Met l yX5_now wsX5_now ({ frames := 7, cells := 8, slots := 60, locals := 121 }) (kPc D A [.ref (ad 0), .int r] ad w) (kQi D A (fun v ad' w' => v = S 0 (nv r) ∧ noK r = 0 ∧ ad' = ad ∧ w' = w)) (kX D A (fun E => E = xIO ∧ noK r = 1) ad w) 8 60 A := by
  refine vx_ofW (cc := cX5_now) (maxL := 2) (ret := (some (.int))) (by decide) rfl ?_
  intro p e s m args below meth c s₁ B hml hout hv
  obtain ⟨rfl, hE, hW0, hI0, hA⟩ := hv
  have hx := B.exec
  have hb := B.bytes
  have hr := B.returns
  have hts := atoms_spec (ws := wsX5_now) B.pre
  have hown : s.vm.findClass RX5 = some m.cls := findClass_of_methodNamed B.named
  have hlocks := B.notSynchronized
  have hiRX2 : ∀ w ∈ wsX20, w ∈ wsX5_now := by decide +kernel
  have hW : kS D A s.heap ad w s.heap [] := ⟨hW0, hI0, va_S.rf, hA⟩
  have hl := lv_entry ([.ref (ad 0), .int r]) (n := 2) (Nat.le_of_ble_eq_true rfl)
  rw [lg_entry_eq]
  generalize (lg_sl ([.ref (ad 0), .int r]) ++ List.replicate (2 - (lg_sl ([.ref (ad 0), .int r])).length) Slot.unset).toArray = ls at hl ⊢
  have hl : lv_has ls 2 [(0, .ref (ad 0)), (1, .int r)] := hl
  refine lv_aload_n hx hb dX5_now_0 rfl (lv_at hl 0 rfl) ?_
  refine lv_iload_n hx hb dX5_now_1 rfl (lv_at hl 1 rfl) ?_
  refine kx_q (vx_runV (As := [.int r]) (rest := []) ⟨hx, hb, hml, hown, hts⟩ (k_X5_rowNumbered l hnt D A ad w S nT nC nD nM nZ hC hN r) (cwV 1 hts gX5_now_X5_rowNumbered rfl rfl rfl (by decide +kernel) ⟨Nat.le_of_ble_eq_true rfl, Nat.le_of_ble_eq_true rfl⟩) (kV hE hW hC.u rfl _) rfl rfl hl.1 rfl (lv_room (Nat.le_of_ble_eq_true rfl)) dX5_now_2 ⟨Nat.le_of_ble_eq_true rfl, Nat.le_of_ble_eq_true rfl⟩) hW (kx_out hout hlocks (Nat.le_of_ble_eq_true rfl) (Nat.le_of_ble_eq_true rfl) (fun E h9 => ⟨⟨h9.1, noK_1 h9.2⟩, rfl, rfl⟩)) (fun r4 ad1 w2 H5 locs hp3 hW => ?_)
  obtain ⟨e6, q9, e7, e8⟩ := hp3
  rw [e7, e8] at hW
  subst e6
  obtain ⟨j, hj, rfl⟩ := roP_iff.mp q9
  have qj : roP (nI j) := roP_iff.mpr ⟨j, hj, rfl⟩
  have nj : nv (nI j) = j := nv_nI (by omega)
  refine W.eq (g2 := F0 m 5 ls [.ref (ad (24 + j))]) (by rw [nv_nI (by omega)]; rfl) ?_
  refine kk_getN hx hb hts hown hE hW (hC.r hj) rfl hiRX2 1 (by decide) (hE.N 7 rfl) (fun _ h9 => h9) rfl dX5_now_5 ?_
  exact vx_ret (ke_i hx hb hr hlocks (Nat.le_of_ble_eq_true rfl) (Nat.le_of_ble_eq_true rfl) dX5_now_8 hW (⟨by rw [nj], noK_0 qj, rfl, rfl⟩))

set_option maxHeartbeats 4000000 in
set_option maxRecDepth 100000 in
/-- k_X5_lockOf -/
theorem k_X5_lockOf (l : Launch) (hnt : l.stackTraces = false) (D : va_G) (A : Nat → Prop) (ad : Nat → Nat) (w : kWd) (S : St) (nT nC nD nM nZ : Nat) (hC : CW D S ad w nT nC) (hN : SN S nT nC nD nM nZ) (r : Int32) : vx_Met l yX5_lockOf wsX5_lockOf ({ frames := 7, cells := 8, slots := 60, locals := 121 }) (kPc D A [.ref (ad 0), .int r] ad w) (kQi D A (fun v ad' w' => v = lockV S r ∧ noK r = 0 ∧ ad' = ad ∧ w' = w)) (kX D A (fun E => E = xIO ∧ noK r = 1) ad w) 8 60 A := by
  refine vx_ofW (cc := cX5_lockOf) (maxL := 3) (ret := (some (.int))) (by decide) rfl ?_
  intro p e s m args below meth c s₁ B hml hout hv
  obtain ⟨rfl, hE, hW0, hI0, hA⟩ := hv
  have hx := B.exec
  have hb := B.bytes
  have hr := B.returns
  have hts := atoms_spec (ws := wsX5_lockOf) B.pre
  have hown : s.vm.findClass RX5 = some m.cls := findClass_of_methodNamed B.named
  have hlocks := B.notSynchronized
  have hiRX4 : ∀ w ∈ wsX40, w ∈ wsX5_lockOf := by decide +kernel
  have hW : kS D A s.heap ad w s.heap [] := ⟨hW0, hI0, va_S.rf, hA⟩
  have hl := lv_entry ([.ref (ad 0), .int r]) (n := 3) (Nat.le_of_ble_eq_true rfl)
  rw [lg_entry_eq]
  generalize (lg_sl ([.ref (ad 0), .int r]) ++ List.replicate (3 - (lg_sl ([.ref (ad 0), .int r])).length) Slot.unset).toArray = ls at hl ⊢
  have hl : lv_has ls 3 [(0, .ref (ad 0)), (1, .int r)] := hl
  have h60 := hN.2.2.2.2.2.1
  have h512 := hN.2.2.2.2.2.2.1
  refine lv_aload_n hx hb dX5_lockOf_0 rfl (lv_at hl 0 rfl) ?_
  refine lv_aload_n hx hb dX5_lockOf_1 rfl (lv_at hl 0 rfl) ?_
  refine lv_iload_n hx hb dX5_lockOf_2 rfl (lv_at hl 1 rfl) ?_
  refine kx_q (vx_runV (As := [.int r]) (rest := [.ref (ad 0)]) ⟨hx, hb, hml, hown, hts⟩ (k_X5_rowNumbered l hnt D A ad w S nT nC nD nM nZ hC hN r) (cwV 1 hts gX5_lockOf_X5_rowNumbered rfl rfl rfl (by decide +kernel) ⟨Nat.le_of_ble_eq_true rfl, Nat.le_of_ble_eq_true rfl⟩) (kV hE hW hC.u rfl _) rfl rfl hl.1 rfl (lv_room (Nat.le_of_ble_eq_true rfl)) dX5_lockOf_3 ⟨Nat.le_of_ble_eq_true rfl, Nat.le_of_ble_eq_true rfl⟩) hW (kx_out hout hlocks (Nat.le_of_ble_eq_true rfl) (Nat.le_of_ble_eq_true rfl) (fun E h9 => ⟨⟨h9.1, noK_1 h9.2⟩, rfl, rfl⟩)) (fun r4 ad1 w2 H5 locs hp3 hW => ?_)
  obtain ⟨e6, q9, e7, e8⟩ := hp3
  rw [e7, e8] at hW
  subst e6
  obtain ⟨j, hj, rfl⟩ := roP_iff.mp q9
  have qj : roP (nI j) := roP_iff.mpr ⟨j, hj, rfl⟩
  have nj : nv (nI j) = j := nv_nI (by omega)
  refine W.eq (g2 := F0 m 6 ls [.ref (ad (24 + j)), .ref (ad 0)]) (by rw [nv_nI (by omega)]; rfl) ?_
  refine kk_q (va_runV (As := [.ref (ad (24 + j))]) (rest := []) ⟨hx, hb, hml, hown, hts⟩ (k_X5_lockerOf l D A ad w S nT nC nD nM nZ hC hN j hj) (cwV 1 hts gX5_lockOf_X5_lockerOf rfl rfl rfl (by decide +kernel) ⟨Nat.le_of_ble_eq_true rfl, Nat.le_of_ble_eq_true rfl⟩) (kV hE hW hC.u rfl _) rfl rfl hl.1 rfl (lv_room (Nat.le_of_ble_eq_true rfl)) dX5_lockOf_6 ⟨Nat.le_of_ble_eq_true rfl, Nat.le_of_ble_eq_true rfl⟩) hW (fun r13 ad10 w11 H14 locs hp12 hW => ?_)
  obtain ⟨e15, e16, e17⟩ := hp12
  rw [e16, e17] at hW
  subst e15
  rcases lockV_of hN (nI j) with hk | ⟨t, ht, hk, -⟩
  · have hz : lkO2 ad S (nI j) = none := if_pos hk
    refine W.eq (g2 := F0 m 9 ls [.null]) (by rw [hz]; rfl) ?_
    refine lv_astore_nN (lv' := [(2, .null), (0, .ref (ad 0)), (1, .int (nI j))]) hx hb dX5_lockOf_9 rfl hl (by decide) rfl (fun ls hl => ?_)
    refine lv_aload_nN hx hb dX5_lockOf_10 rfl (lv_at hl 0 rfl) ?_
    refine lv_ifnonnullN hx hb dX5_lockOf_11 ?_
    refine lv_iconst (v := (-1)) hx hb dX5_lockOf_14 (by decide) ?_
    refine lv_goto (tgt := 22) hx hb dX5_lockOf_15 (by decide) ?_
    exact vx_ret (ke_i hx hb hr hlocks (Nat.le_of_ble_eq_true rfl) (Nat.le_of_ble_eq_true rfl) dX5_lockOf_22 hW (⟨hk.symm, noK_0 qj, rfl, rfl⟩))
  · have hz : lkO2 ad S (nI j) = some (ad (tkey t)) := by unfold lkO2; rw [hk, if_neg (nI_nm1 (by omega)), nv_nI (by omega)]
    refine W.eq (g2 := F0 m 9 ls [.ref (ad (tkey t))]) (by rw [hz]; rfl) ?_
    refine lv_astore_n (lv' := [(2, .ref (ad (tkey t))), (0, .ref (ad 0)), (1, .int (nI j))]) hx hb dX5_lockOf_9 rfl hl (by decide) rfl (fun ls hl => ?_)
    refine lv_aload_n hx hb dX5_lockOf_10 rfl (lv_at hl 0 rfl) ?_
    refine lv_ifnonnull (tgt := 18) hx hb dX5_lockOf_11 (by decide) ?_
    refine lv_aload_n hx hb dX5_lockOf_18 rfl (lv_at hl 0 rfl) ?_
    refine kk_getN hx hb hts hown hE hW (hC.t ht) rfl hiRX4 0 (by decide) (hE.N 8 rfl) (fun _ h9 => h9) rfl dX5_lockOf_19 ?_
    exact vx_ret (ke_i hx hb hr hlocks (Nat.le_of_ble_eq_true rfl) (Nat.le_of_ble_eq_true rfl) dX5_lockOf_22 hW (⟨hk.symm, noK_0 qj, rfl, rfl⟩))

set_option maxHeartbeats 4000000 in
set_option maxRecDepth 100000 in
/-- k_X5_slotOf -/
theorem k_X5_slotOf (l : Launch) (hnt : l.stackTraces = false) (D : va_G) (A : Nat → Prop) (ad : Nat → Nat) (w : kWd) (S : St) (nT nC nD nM nZ : Nat) (hC : CW D S ad w nT nC) (hN : SN S nT nC nD nM nZ) (b k : Int32) : vx_Met l yX5_slotOf wsX5_slotOf ({ frames := 7, cells := 8, slots := 60, locals := 123 }) (kPc D A [.ref (ad 0), .int b, .int k] ad w) (kQi D A (fun v ad' w' => v = S 8 (nv (2 * b + k)) ∧ soK b k = 0 ∧ ad' = ad ∧ w' = w)) (kX D A (fun E => E = xIO ∧ soK b k = 1) ad w) 8 60 A := by
  refine vx_ofW (cc := cX5_slotOf) (maxL := 4) (ret := (some (.int))) (by decide) rfl ?_
  intro p e s m args below meth c s₁ B hml hout hv
  obtain ⟨rfl, hE, hW0, hI0, hA⟩ := hv
  have hx := B.exec
  have hb := B.bytes
  have hr := B.returns
  have hts := atoms_spec (ws := wsX5_slotOf) B.pre
  have hown : s.vm.findClass RX5 = some m.cls := findClass_of_methodNamed B.named
  have hlocks := B.notSynchronized
  have hiRX3 : ∀ w ∈ wsX30, w ∈ wsX5_slotOf := by decide +kernel
  have hiRX4 : ∀ w ∈ wsX40, w ∈ wsX5_slotOf := by decide +kernel
  have hW : kS D A s.heap ad w s.heap [] := ⟨hW0, hI0, va_S.rf, hA⟩
  have hl := lv_entry ([.ref (ad 0), .int b, .int k]) (n := 4) (Nat.le_of_ble_eq_true rfl)
  rw [lg_entry_eq]
  generalize (lg_sl ([.ref (ad 0), .int b, .int k]) ++ List.replicate (4 - (lg_sl ([.ref (ad 0), .int b, .int k])).length) Slot.unset).toArray = ls at hl ⊢
  have hl : lv_has ls 4 [(0, .ref (ad 0)), (1, .int b), (2, .int k)] := hl
  have h60 := hN.2.2.2.2.2.1
  have h512 := hN.2.2.2.2.2.2.1
  refine lv_aload_n hx hb dX5_slotOf_0 rfl (lv_at hl 0 rfl) ?_
  refine lv_iload_n hx hb dX5_slotOf_1 rfl (lv_at hl 1 rfl) ?_
  refine lv_iload_n hx hb dX5_slotOf_2 rfl (lv_at hl 2 rfl) ?_
  refine kx_q (vx_runV (As := [.int b, .int k]) (rest := []) ⟨hx, hb, hml, hown, hts⟩ (k_X5_slotNumbered l hnt D A ad w S nT nC nD nM nZ hC hN b k) (cwV 2 hts gX5_slotOf_X5_slotNumbered rfl rfl rfl (by decide +kernel) ⟨Nat.le_of_ble_eq_true rfl, Nat.le_of_ble_eq_true rfl⟩) (kV hE hW hC.u rfl _) rfl rfl hl.1 rfl (lv_room (Nat.le_of_ble_eq_true rfl)) dX5_slotOf_3 ⟨Nat.le_of_ble_eq_true rfl, Nat.le_of_ble_eq_true rfl⟩) hW (kx_out hout hlocks (Nat.le_of_ble_eq_true rfl) (Nat.le_of_ble_eq_true rfl) (fun E h9 => ⟨⟨h9.1, soK_1 h9.2⟩, rfl, rfl⟩)) (fun r4 ad1 w2 H5 locs hp3 hW => ?_)
  obtain ⟨e6, q9, e7, e8⟩ := hp3
  rw [e7, e8] at hW
  subst e6
  have hi6 : nv (2 * b + k) < 6 := by
    obtain ⟨b1, hb1, rfl⟩ := inP_N (n := 2) (by decide) q9.1
    obtain ⟨k1, hk1, rfl⟩ := inP_N (n := 1) (by decide) q9.2
    rw [nI_2, nI_add, nv_nI (by omega)]
    omega
  obtain ⟨i, hi⟩ : ∃ i, i = nv (2 * b + k) := ⟨_, rfl⟩
  rw [← hi] at hi6 ⊢
  refine W.eq (g2 := F0 m 6 ls [.ref (ad (16 + i))]) rfl ?_
  rcases hN.sl hi6 with h8 | ⟨t, ht, h8⟩
  · refine kk_getN hx hb hts hown hE hW (hC.sn hi6 h8) rfl hiRX3 0 (by decide) (hE.N 1 rfl) (fun _ h9 => h9) rfl dX5_slotOf_6 ?_
    refine lv_astore_nN (lv' := [(3, .null), (0, .ref (ad 0)), (1, .int b), (2, .int k)]) hx hb dX5_slotOf_9 rfl hl (by decide) rfl (fun ls hl => ?_)
    refine lv_aload_nN hx hb dX5_slotOf_10 rfl (lv_at hl 0 rfl) ?_
    refine lv_ifnonnullN hx hb dX5_slotOf_11 ?_
    refine lv_iconst (v := (-1)) hx hb dX5_slotOf_14 (by decide) ?_
    refine lv_goto (tgt := 22) hx hb dX5_slotOf_15 (by decide) ?_
    exact vx_ret (ke_i hx hb hr hlocks (Nat.le_of_ble_eq_true rfl) (Nat.le_of_ble_eq_true rfl) dX5_slotOf_22 hW (⟨h8.symm, soK_0 q9, rfl, rfl⟩))
  · refine kk_getN hx hb hts hown hE hW (hC.ss hi6 h8 (by omega)) rfl hiRX3 0 (by decide) (hE.N 1 rfl) (fun _ h9 => h9) rfl dX5_slotOf_6 ?_
    refine lv_astore_n (lv' := [(3, .ref (ad (tkey t))), (0, .ref (ad 0)), (1, .int b), (2, .int k)]) hx hb dX5_slotOf_9 rfl hl (by decide) rfl (fun ls hl => ?_)
    refine lv_aload_n hx hb dX5_slotOf_10 rfl (lv_at hl 0 rfl) ?_
    refine lv_ifnonnull (tgt := 18) hx hb dX5_slotOf_11 (by decide) ?_
    refine lv_aload_n hx hb dX5_slotOf_18 rfl (lv_at hl 0 rfl) ?_
    refine kk_getN hx hb hts hown hE hW (hC.t ht) rfl hiRX4 0 (by decide) (hE.N 8 rfl) (fun _ h9 => h9) rfl dX5_slotOf_19 ?_
    exact vx_ret (ke_i hx hb hr hlocks (Nat.le_of_ble_eq_true rfl) (Nat.le_of_ble_eq_true rfl) dX5_slotOf_22 hW (⟨h8.symm, soK_0 q9, rfl, rfl⟩))

set_option maxHeartbeats 4000000 in
set_option maxRecDepth 100000 in
/-- k_X5_isMarked -/
theorem k_X5_isMarked (l : Launch) (hnt : l.stackTraces = false) (D : va_G) (A : Nat → Prop) (ad : Nat → Nat) (w : kWd) (S : St) (nT nC nD nM nZ : Nat) (hC : CW D S ad w nT nC) (hN : SN S nT nC nD nM nZ) (b k : Int32) : vx_Met l yX5_isMarked wsX5_isMarked ({ frames := 7, cells := 8, slots := 60, locals := 123 }) (kPc D A [.ref (ad 0), .int b, .int k] ad w) (kQi D A (fun v ad' w' => v = S 9 (nv (2 * b + k)) ∧ soK b k = 0 ∧ ad' = ad ∧ w' = w)) (kX D A (fun E => E = xIO ∧ soK b k = 1) ad w) 8 60 A := by
  refine vx_ofW (cc := cX5_isMarked) (maxL := 3) (ret := (some (.boolean))) (by decide) rfl ?_
  intro p e s m args below meth c s₁ B hml hout hv
  obtain ⟨rfl, hE, hW0, hI0, hA⟩ := hv
  have hx := B.exec
  have hb := B.bytes
  have hr := B.returns
  have hts := atoms_spec (ws := wsX5_isMarked) B.pre
  have hown : s.vm.findClass RX5 = some m.cls := findClass_of_methodNamed B.named
  have hlocks := B.notSynchronized
  have hiRX3 : ∀ w ∈ wsX30, w ∈ wsX5_isMarked := by decide +kernel
  have hW : kS D A s.heap ad w s.heap [] := ⟨hW0, hI0, va_S.rf, hA⟩
  have hl := lv_entry ([.ref (ad 0), .int b, .int k]) (n := 3) (Nat.le_of_ble_eq_true rfl)
  rw [lg_entry_eq]
  generalize (lg_sl ([.ref (ad 0), .int b, .int k]) ++ List.replicate (3 - (lg_sl ([.ref (ad 0), .int b, .int k])).length) Slot.unset).toArray = ls at hl ⊢
  have hl : lv_has ls 3 [(0, .ref (ad 0)), (1, .int b), (2, .int k)] := hl
  have h60 := hN.2.2.2.2.2.1
  have h512 := hN.2.2.2.2.2.2.1
  refine lv_aload_n hx hb dX5_isMarked_0 rfl (lv_at hl 0 rfl) ?_
  refine lv_iload_n hx hb dX5_isMarked_1 rfl (lv_at hl 1 rfl) ?_
  refine lv_iload_n hx hb dX5_isMarked_2 rfl (lv_at hl 2 rfl) ?_
  refine kx_q (vx_runV (As := [.int b, .int k]) (rest := []) ⟨hx, hb, hml, hown, hts⟩ (k_X5_slotNumbered l hnt D A ad w S nT nC nD nM nZ hC hN b k) (cwV 2 hts gX5_isMarked_X5_slotNumbered rfl rfl rfl (by decide +kernel) ⟨Nat.le_of_ble_eq_true rfl, Nat.le_of_ble_eq_true rfl⟩) (kV hE hW hC.u rfl _) rfl rfl hl.1 rfl (lv_room (Nat.le_of_ble_eq_true rfl)) dX5_isMarked_3 ⟨Nat.le_of_ble_eq_true rfl, Nat.le_of_ble_eq_true rfl⟩) hW (kx_out hout hlocks (Nat.le_of_ble_eq_true rfl) (Nat.le_of_ble_eq_true rfl) (fun E h9 => ⟨⟨h9.1, soK_1 h9.2⟩, rfl, rfl⟩)) (fun r4 ad1 w2 H5 locs hp3 hW => ?_)
  obtain ⟨e6, q9, e7, e8⟩ := hp3
  rw [e7, e8] at hW
  subst e6
  have hi6 : nv (2 * b + k) < 6 := by
    obtain ⟨b1, hb1, rfl⟩ := inP_N (n := 2) (by decide) q9.1
    obtain ⟨k1, hk1, rfl⟩ := inP_N (n := 1) (by decide) q9.2
    rw [nI_2, nI_add, nv_nI (by omega)]
    omega
  obtain ⟨i, hi⟩ : ∃ i, i = nv (2 * b + k) := ⟨_, rfl⟩
  rw [← hi] at hi6 ⊢
  refine W.eq (g2 := F0 m 6 ls [.ref (ad (16 + i))]) rfl ?_
  refine kk_getN hx hb hts hown hE hW (hC.s hi6) rfl hiRX3 1 (by decide) (hE.N 3 rfl) (fun _ h9 => h9) rfl dX5_isMarked_6 ?_
  exact vx_ret (ke_z hx hb hr hlocks (Nat.le_of_ble_eq_true rfl) (Nat.le_of_ble_eq_true rfl) dX5_isMarked_9 (hN.en hi6) hW (⟨rfl, soK_0 q9, rfl, rfl⟩))

set_option maxHeartbeats 4000000 in
set_option maxRecDepth 100000 in
/-- k_X5_versionAt -/
theorem k_X5_versionAt (l : Launch) (hnt : l.stackTraces = false) (D : va_G) (A : Nat → Prop) (ad : Nat → Nat) (w : kWd) (S : St) (nT nC nD nM nZ : Nat) (hC : CW D S ad w nT nC) (hN : SN S nT nC nD nM nZ) (mm r : Int32) : vx_Met l yX5_versionAt wsX5_versionAt ({ frames := 7, cells := 8, slots := 60, locals := 121 }) (kPc D A [.ref (ad 0), .int mm, .int r] ad w) (kQi D A (fun v ad' w' => v = (vaV S mm r (-1)).1 ∧ vrK S mm r = 0 ∧ ad' = ad ∧ w' = w)) (kX D A (fun E => (E = xIO ∧ vrK S mm r = 1) ∨ (E = xIA ∧ vrK S mm r = 2)) ad w) 8 60 A := by
  refine vx_ofW (cc := cX5_versionAt) (maxL := 4) (ret := (some (.int))) (by decide) rfl ?_
  intro p e s m args below meth c s₁ B hml hout hv
  obtain ⟨rfl, hE, hW0, hI0, hA⟩ := hv
  have hx := B.exec
  have hb := B.bytes
  have hr := B.returns
  have hts := atoms_spec (ws := wsX5_versionAt) B.pre
  have hown : s.vm.findClass RX5 = some m.cls := findClass_of_methodNamed B.named
  have hlocks := B.notSynchronized
  have hW : kS D A s.heap ad w s.heap [] := ⟨hW0, hI0, va_S.rf, hA⟩
  have hl := lv_entry ([.ref (ad 0), .int mm, .int r]) (n := 4) (Nat.le_of_ble_eq_true rfl)
  rw [lg_entry_eq]
  generalize (lg_sl ([.ref (ad 0), .int mm, .int r]) ++ List.replicate (4 - (lg_sl ([.ref (ad 0), .int mm, .int r])).length) Slot.unset).toArray = ls at hl ⊢
  have hl : lv_has ls 4 [(0, .ref (ad 0)), (1, .int mm), (2, .int r)] := hl
  have h60 := hN.2.2.2.2.2.1
  have h512 := hN.2.2.2.2.2.2.1
  refine lv_aload_n hx hb dX5_versionAt_0 rfl (lv_at hl 0 rfl) ?_
  refine lv_iload_n hx hb dX5_versionAt_1 rfl (lv_at hl 2 rfl) ?_
  refine kx_q (vx_runV (As := [.int r]) (rest := []) ⟨hx, hb, hml, hown, hts⟩ (k_X5_rowNumbered l hnt D A ad w S nT nC nD nM nZ hC hN r) (cwV 1 hts gX5_versionAt_X5_rowNumbered rfl rfl rfl (by decide +kernel) ⟨Nat.le_of_ble_eq_true rfl, Nat.le_of_ble_eq_true rfl⟩) (kV hE hW hC.u rfl _) rfl rfl hl.1 rfl (lv_room (Nat.le_of_ble_eq_true rfl)) dX5_versionAt_2 ⟨Nat.le_of_ble_eq_true rfl, Nat.le_of_ble_eq_true rfl⟩) hW (kx_out hout hlocks (Nat.le_of_ble_eq_true rfl) (Nat.le_of_ble_eq_true rfl) (fun E h9 => ⟨Or.inl ⟨h9.1, vrK_1 h9.2⟩, rfl, rfl⟩)) (fun r4 ad1 w2 H5 locs hp3 hW => ?_)
  obtain ⟨e6, q9, e7, e8⟩ := hp3
  rw [e7, e8] at hW
  subst e6
  obtain ⟨j, hj, rfl⟩ := roP_iff.mp q9
  have qj : roP (nI j) := roP_iff.mpr ⟨j, hj, rfl⟩
  have nj : nv (nI j) = j := nv_nI (by omega)
  refine W.eq (g2 := F0 m 5 ls [.ref (ad (24 + j))]) (by rw [nv_nI (by omega)]; rfl) ?_
  refine lv_astore_n (lv' := [(3, .ref (ad (24 + j))), (0, .ref (ad 0)), (1, .int mm), (2, .int (nI j))]) hx hb dX5_versionAt_5 rfl hl (by decide) rfl (fun ls hl => ?_)
  refine lv_aload_n hx hb dX5_versionAt_6 rfl (lv_at hl 1 rfl) ?_
  refine lv_iload_n hx hb dX5_versionAt_7 rfl (lv_at hl 2 rfl) ?_
  refine kx_v (vx_runV (As := [.int mm]) (rest := []) ⟨hx, hb, hml, hown, hts⟩ (k_X5_refuseIfNotYet l hnt D A ad w S nT nC nD nM nZ hC hN mm) (cwV 1 hts gX5_versionAt_X5_refuseIfNotYet rfl rfl rfl (by decide +kernel) ⟨Nat.le_of_ble_eq_true rfl, Nat.le_of_ble_eq_true rfl⟩) (kV hE hW hC.u rfl _) rfl rfl hl.1 rfl (lv_room (Nat.le_of_ble_eq_true rfl)) dX5_versionAt_8 ⟨Nat.le_of_ble_eq_true rfl, Nat.le_of_ble_eq_true rfl⟩) hW (kx_out hout hlocks (Nat.le_of_ble_eq_true rfl) (Nat.le_of_ble_eq_true rfl) (fun E h9 => ⟨Or.inr ⟨h9.1, vrK_2 qj h9.2⟩, rfl, rfl⟩)) (fun ad10 w11 H14 locs hp12 hW => ?_)
  obtain ⟨q18, e16, e17⟩ := hp12
  rw [e16, e17] at hW
  have hd := hN.2.2.2.2.2.2.2.1
  have hv9 := vaV_olL (m := mm) (t := -1) hN.2.1 hN.2.2.1 h512 hd hj
  have ho9 := olL_le S mm (nI j) (-1) nC nC (Nat.le_refl _)
  obtain ⟨o, ho⟩ : ∃ o, o = olL S mm (nI j) (-1) nC nC := ⟨_, rfl⟩
  rw [← ho] at hv9 ho9
  refine lv_aload_n hx hb dX5_versionAt_11 rfl (lv_at hl 1 rfl) ?_
  refine lv_aload_n hx hb dX5_versionAt_12 rfl (lv_at hl 1 rfl) ?_
  refine lv_aload_n hx hb dX5_versionAt_13 rfl (lv_at hl 0 rfl) ?_
  refine lv_iload_n hx hb dX5_versionAt_14 rfl (lv_at hl 2 rfl) ?_
  refine lv_null hx hb dX5_versionAt_15 ?_
  refine kk_i (va_runV (As := [.ref (ad (24 + j)), .int mm, .null]) (rest := [.ref (ad 0)]) ⟨hx, hb, hml, hown, hts⟩ (k_X5_oldestUnseen_n l D A ad w S nT nC nD nM nZ hC hN j hj mm) (cwV 3 hts gX5_versionAt_X5_oldestUnseen rfl rfl rfl (by decide +kernel) ⟨Nat.le_of_ble_eq_true rfl, Nat.le_of_ble_eq_true rfl⟩) (kV hE hW hC.u rfl _) rfl rfl hl.1 rfl (lv_room (Nat.le_of_ble_eq_true rfl)) dX5_versionAt_16 ⟨Nat.le_of_ble_eq_true rfl, Nat.le_of_ble_eq_true rfl⟩) hW (fun r22 ad19 w20 H23 locs hp21 hW => ?_)
  obtain ⟨e24, e25, e26⟩ := hp21
  rw [e25, e26] at hW
  subst e24
  rw [← ho]
  refine lv_aload_n hx hb dX5_versionAt_19 rfl (lv_at hl 0 rfl) ?_
  refine kk_i (va_runV (As := [.int (nI o), .ref (ad (24 + j))]) (rest := []) ⟨hx, hb, hml, hown, hts⟩ (k_X5_valueAheadOf l D A ad w S nT nC nD nM nZ hC hN o ho9 j hj) (cwV 2 hts gX5_versionAt_X5_valueAheadOf rfl rfl rfl (by decide +kernel) ⟨Nat.le_of_ble_eq_true rfl, Nat.le_of_ble_eq_true rfl⟩) (kV hE hW hC.u rfl _) rfl rfl hl.1 rfl (lv_room (Nat.le_of_ble_eq_true rfl)) dX5_versionAt_20 ⟨Nat.le_of_ble_eq_true rfl, Nat.le_of_ble_eq_true rfl⟩) hW (fun r30 ad27 w28 H31 locs hp29 hW => ?_)
  obtain ⟨e32, e33, e34⟩ := hp29
  rw [e33, e34] at hW
  subst e32
  exact vx_ret (ke_i hx hb hr hlocks (Nat.le_of_ble_eq_true rfl) (Nat.le_of_ble_eq_true rfl) dX5_versionAt_23 hW (⟨by rw [hv9], vrK_0 qj q18, rfl, rfl⟩))

set_option maxHeartbeats 4000000 in
set_option maxRecDepth 100000 in
/-- k_X5_readAt -/
theorem k_X5_readAt (l : Launch) (hnt : l.stackTraces = false) (D : va_G) (A : Nat → Prop) (ad : Nat → Nat) (w : kWd) (S : St) (nT nC nD nM nZ : Nat) (hC : CW D S ad w nT nC) (hN : SN S nT nC nD nM nZ) (mm r : Int32) : vx_Met l yX5_readAt wsX5_readAt ({ frames := 7, cells := 8, slots := 60, locals := 124 }) (kPc D A [.ref (ad 0), .int mm, .int r] ad w) (kQi D A (fun v ad' w' => v = (vaV S mm r (-1)).1 ∧ (vaV S mm r (-1)).2 = 0 ∧ vrK S mm r = 0 ∧ ad' = ad ∧ CW D (cleanS S (nv r / 4)) ad w' nT nC ∧ FrC ad w ad w')) (kX D A (fun E => (E = xIO ∧ vrK S mm r = 1) ∨ (E = xIA ∧ vrK S mm r = 2) ∨ (E = xNS ∧ vrK S mm r = 0 ∧ ¬ (vaV S mm r (-1)).2 = 0)) ad w) 8 60 A := by
  refine vx_ofW (cc := cX5_readAt) (maxL := 4) (ret := (some (.int))) (by decide) rfl ?_
  intro p e s m args below meth c s₁ B hml hout hv
  obtain ⟨rfl, hE, hW0, hI0, hA⟩ := hv
  have hx := B.exec
  have hb := B.bytes
  have hr := B.returns
  have hts := atoms_spec (ws := wsX5_readAt) B.pre
  have hown : s.vm.findClass RX5 = some m.cls := findClass_of_methodNamed B.named
  have hlocks := B.notSynchronized
  have hW : kS D A s.heap ad w s.heap [] := ⟨hW0, hI0, va_S.rf, hA⟩
  have hl := lv_entry ([.ref (ad 0), .int mm, .int r]) (n := 4) (Nat.le_of_ble_eq_true rfl)
  rw [lg_entry_eq]
  generalize (lg_sl ([.ref (ad 0), .int mm, .int r]) ++ List.replicate (4 - (lg_sl ([.ref (ad 0), .int mm, .int r])).length) Slot.unset).toArray = ls at hl ⊢
  have hl : lv_has ls 4 [(0, .ref (ad 0)), (1, .int mm), (2, .int r)] := hl
  have h60 := hN.2.2.2.2.2.1
  have h512 := hN.2.2.2.2.2.2.1
  refine lv_aload_n hx hb dX5_readAt_0 rfl (lv_at hl 0 rfl) ?_
  refine lv_iload_n hx hb dX5_readAt_1 rfl (lv_at hl 2 rfl) ?_
  refine kx_q (vx_runV (As := [.int r]) (rest := []) ⟨hx, hb, hml, hown, hts⟩ (k_X5_rowNumbered l hnt D A ad w S nT nC nD nM nZ hC hN r) (cwV 1 hts gX5_readAt_X5_rowNumbered rfl rfl rfl (by decide +kernel) ⟨Nat.le_of_ble_eq_true rfl, Nat.le_of_ble_eq_true rfl⟩) (kV hE hW hC.u rfl _) rfl rfl hl.1 rfl (lv_room (Nat.le_of_ble_eq_true rfl)) dX5_readAt_2 ⟨Nat.le_of_ble_eq_true rfl, Nat.le_of_ble_eq_true rfl⟩) hW (kx_out hout hlocks (Nat.le_of_ble_eq_true rfl) (Nat.le_of_ble_eq_true rfl) (fun E h9 => ⟨Or.inl ⟨h9.1, vrK_1 h9.2⟩, rfl, rfl⟩)) (fun r4 ad1 w2 H5 locs hp3 hW => ?_)
  obtain ⟨e6, q9, e7, e8⟩ := hp3
  rw [e7, e8] at hW
  subst e6
  obtain ⟨j, hj, rfl⟩ := roP_iff.mp q9
  have qj : roP (nI j) := roP_iff.mpr ⟨j, hj, rfl⟩
  have nj : nv (nI j) = j := nv_nI (by omega)
  refine W.eq (g2 := F0 m 5 ls [.ref (ad (24 + j))]) (by rw [nv_nI (by omega)]; rfl) ?_
  refine lv_astore_n (lv' := [(3, .ref (ad (24 + j))), (0, .ref (ad 0)), (1, .int mm), (2, .int (nI j))]) hx hb dX5_readAt_5 rfl hl (by decide) rfl (fun ls hl => ?_)
  refine lv_aload_n hx hb dX5_readAt_6 rfl (lv_at hl 1 rfl) ?_
  refine lv_iload_n hx hb dX5_readAt_7 rfl (lv_at hl 2 rfl) ?_
  refine kx_v (vx_runV (As := [.int mm]) (rest := []) ⟨hx, hb, hml, hown, hts⟩ (k_X5_refuseIfNotYet l hnt D A ad w S nT nC nD nM nZ hC hN mm) (cwV 1 hts gX5_readAt_X5_refuseIfNotYet rfl rfl rfl (by decide +kernel) ⟨Nat.le_of_ble_eq_true rfl, Nat.le_of_ble_eq_true rfl⟩) (kV hE hW hC.u rfl _) rfl rfl hl.1 rfl (lv_room (Nat.le_of_ble_eq_true rfl)) dX5_readAt_8 ⟨Nat.le_of_ble_eq_true rfl, Nat.le_of_ble_eq_true rfl⟩) hW (kx_out hout hlocks (Nat.le_of_ble_eq_true rfl) (Nat.le_of_ble_eq_true rfl) (fun E h9 => ⟨Or.inr (Or.inl ⟨h9.1, vrK_2 qj h9.2⟩), rfl, rfl⟩)) (fun ad10 w11 H14 locs hp12 hW => ?_)
  obtain ⟨q18, e16, e17⟩ := hp12
  rw [e16, e17] at hW
  refine lv_aload_n hx hb dX5_readAt_11 rfl (lv_at hl 1 rfl) ?_
  refine lv_aload_n hx hb dX5_readAt_12 rfl (lv_at hl 0 rfl) ?_
  refine lv_iload_n hx hb dX5_readAt_13 rfl (lv_at hl 2 rfl) ?_
  refine lv_null hx hb dX5_readAt_14 ?_
  refine kx_i (vx_runV (As := [.ref (ad (24 + j)), .int mm, .null]) (rest := []) ⟨hx, hb, hml, hown, hts⟩ (k_X5_readFromRecords_n l hnt D A ad w S nT nC nD nM nZ hC hN j hj mm) (cwV 3 hts gX5_readAt_X5_readFromRecords rfl rfl rfl (by decide +kernel) ⟨Nat.le_of_ble_eq_true rfl, Nat.le_of_ble_eq_true rfl⟩) (kV hE hW hC.u rfl _) rfl rfl hl.1 rfl (lv_room (Nat.le_of_ble_eq_true rfl)) dX5_readAt_15 ⟨Nat.le_of_ble_eq_true rfl, Nat.le_of_ble_eq_true rfl⟩) hW (kx_out hout hlocks (Nat.le_of_ble_eq_true rfl) (Nat.le_of_ble_eq_true rfl) (fun E h9 => ⟨Or.inr (Or.inr ⟨h9.1, vrK_0 qj q18, h9.2⟩), rfl, rfl⟩)) (fun r22 ad19 w20 H23 locs hp21 hW => ?_)
  obtain ⟨e1, e2, e3, hC, hF⟩ := hp21
  rw [e3] at hW
  exact vx_ret (ke_i hx hb hr hlocks (Nat.le_of_ble_eq_true rfl) (Nat.le_of_ble_eq_true rfl) dX5_readAt_18 hW (⟨e1, e2, vrK_0 qj q18, rfl, by rw [nj]; exact hC, hF⟩))

set_option maxHeartbeats 4000000 in
set_option maxRecDepth 100000 in
/-- k_X5_read -/
theorem k_X5_read (l : Launch) (hnt : l.stackTraces = false) (D : va_G) (A : Nat → Prop) (ad : Nat → Nat) (w : kWd) (S : St) (nT nC nD nM nZ : Nat) (hC : CW D S ad w nT nC) (hN : SN S nT nC nD nM nZ) (i r : Int32) : vx_Met l yX5_read wsX5_read ({ frames := 7, cells := 8, slots := 60, locals := 124 }) (kPc D A [.ref (ad 0), .int i, .int r] ad w) (kQi D A (fun v ad' w' => v = (vaV S (S 2 (nv i)) r i).1 ∧ (vaV S (S 2 (nv i)) r i).2 = 0 ∧ r1K S i r = 0 ∧ ad' = ad ∧ CW D (cleanS S (nv r / 4)) ad w' nT nC ∧ FrC ad w ad w')) (kX D A (fun E => (E = xIO ∧ r1K S i r = 1) ∨ (E = xIS ∧ r1K S i r = 2) ∨ (E = xNS ∧ r1K S i r = 0 ∧ ¬ (vaV S (S 2 (nv i)) r i).2 = 0)) ad w) 8 60 A := by
  refine vx_ofW (cc := cX5_read) (maxL := 5) (ret := (some (.int))) (by decide) rfl ?_
  intro p e s m args below meth c s₁ B hml hout hv
  obtain ⟨rfl, hE, hW0, hI0, hA⟩ := hv
  have hx := B.exec
  have hb := B.bytes
  have hr := B.returns
  have hts := atoms_spec (ws := wsX5_read) B.pre
  have hown : s.vm.findClass RX5 = some m.cls := findClass_of_methodNamed B.named
  have hlocks := B.notSynchronized
  have hiRX4 : ∀ w ∈ wsX40, w ∈ wsX5_read := by decide +kernel
  have hW : kS D A s.heap ad w s.heap [] := ⟨hW0, hI0, va_S.rf, hA⟩
  have hl := lv_entry ([.ref (ad 0), .int i, .int r]) (n := 5) (Nat.le_of_ble_eq_true rfl)
  rw [lg_entry_eq]
  generalize (lg_sl ([.ref (ad 0), .int i, .int r]) ++ List.replicate (5 - (lg_sl ([.ref (ad 0), .int i, .int r])).length) Slot.unset).toArray = ls at hl ⊢
  have hl : lv_has ls 5 [(0, .ref (ad 0)), (1, .int i), (2, .int r)] := hl
  have h60 := hN.2.2.2.2.2.1
  have h512 := hN.2.2.2.2.2.2.1
  refine lv_aload_n hx hb dX5_read_0 rfl (lv_at hl 0 rfl) ?_
  refine lv_iload_n hx hb dX5_read_1 rfl (lv_at hl 1 rfl) ?_
  refine kx_q (vx_runV (As := [.int i]) (rest := []) ⟨hx, hb, hml, hown, hts⟩ (k_X5_transactionNumbered l hnt D A ad w S nT nC nD nM nZ hC hN i) (cwV 1 hts gX5_read_X5_transactionNumbered rfl rfl rfl (by decide +kernel) ⟨Nat.le_of_ble_eq_true rfl, Nat.le_of_ble_eq_true rfl⟩) (kV hE hW hC.u rfl _) rfl rfl hl.1 rfl (lv_room (Nat.le_of_ble_eq_true rfl)) dX5_read_2 ⟨Nat.le_of_ble_eq_true rfl, Nat.le_of_ble_eq_true rfl⟩) hW (kx_out hout hlocks (Nat.le_of_ble_eq_true rfl) (Nat.le_of_ble_eq_true rfl) (fun E h9 => ⟨Or.inl ⟨h9.1, r1K_1 (fun z => h9.2 z.1)⟩, rfl, rfl⟩)) (fun r4 ad1 w2 H5 locs hp3 hW => ?_)
  obtain ⟨e6, q9, e7, e8⟩ := hp3
  rw [e7, e8] at hW
  subst e6
  obtain ⟨t, ht, rfl⟩ := (trP_iff hN).mp q9
  have qt : trP S (nI t) := (trP_iff hN).mpr ⟨t, ht, rfl⟩
  have nt : nv (nI t) = t := nv_nI (by omega)
  refine W.eq (g2 := F0 m 5 ls [.ref (ad (tkey t))]) (by rw [nv_nI (by omega)]; rfl) ?_
  refine lv_astore_n (lv' := [(3, .ref (ad (tkey t))), (0, .ref (ad 0)), (1, .int (nI t)), (2, .int r)]) hx hb dX5_read_5 rfl hl (by decide) rfl (fun ls hl => ?_)
  refine lv_aload_n hx hb dX5_read_6 rfl (lv_at hl 1 rfl) ?_
  refine lv_iload_n hx hb dX5_read_7 rfl (lv_at hl 3 rfl) ?_
  refine kx_q (vx_runV (As := [.int r]) (rest := []) ⟨hx, hb, hml, hown, hts⟩ (k_X5_rowNumbered l hnt D A ad w S nT nC nD nM nZ hC hN r) (cwV 1 hts gX5_read_X5_rowNumbered rfl rfl rfl (by decide +kernel) ⟨Nat.le_of_ble_eq_true rfl, Nat.le_of_ble_eq_true rfl⟩) (kV hE hW hC.u rfl _) rfl rfl hl.1 rfl (lv_room (Nat.le_of_ble_eq_true rfl)) dX5_read_8 ⟨Nat.le_of_ble_eq_true rfl, Nat.le_of_ble_eq_true rfl⟩) hW (kx_out hout hlocks (Nat.le_of_ble_eq_true rfl) (Nat.le_of_ble_eq_true rfl) (fun E h9 => ⟨Or.inl ⟨h9.1, r1K_1 (fun z => h9.2 z.2)⟩, rfl, rfl⟩)) (fun r13 ad10 w11 H14 locs hp12 hW => ?_)
  obtain ⟨e15, q18, e16, e17⟩ := hp12
  rw [e16, e17] at hW
  subst e15
  obtain ⟨j, hj, rfl⟩ := roP_iff.mp q18
  have qj : roP (nI j) := roP_iff.mpr ⟨j, hj, rfl⟩
  have nj : nv (nI j) = j := nv_nI (by omega)
  refine W.eq (g2 := F0 m 11 ls [.ref (ad (24 + j))]) (by rw [nv_nI (by omega)]; rfl) ?_
  refine lv_astore (lv' := [(4, .ref (ad (24 + j))), (3, .ref (ad (tkey t))), (0, .ref (ad 0)), (1, .int (nI t)), (2, .int (nI j))]) hx hb dX5_read_11 hl (by decide) rfl (fun ls hl => ?_)
  refine lv_aload_n hx hb dX5_read_13 rfl (lv_at hl 2 rfl) ?_
  refine lv_aload_n hx hb dX5_read_14 rfl (lv_at hl 1 rfl) ?_
  refine kx_v (vx_runV (As := [.ref (ad (tkey t))]) (rest := []) ⟨hx, hb, hml, hown, hts⟩ (k_X5_refuseIfEnded l hnt D A ad w S nT nC nD nM nZ hC hN t ht) (cwV 1 hts gX5_read_X5_refuseIfEnded rfl rfl rfl (by decide +kernel) ⟨Nat.le_of_ble_eq_true rfl, Nat.le_of_ble_eq_true rfl⟩) (kV hE hW hC.u rfl _) rfl rfl hl.1 rfl (lv_room (Nat.le_of_ble_eq_true rfl)) dX5_read_15 ⟨Nat.le_of_ble_eq_true rfl, Nat.le_of_ble_eq_true rfl⟩) hW (kx_out hout hlocks (Nat.le_of_ble_eq_true rfl) (Nat.le_of_ble_eq_true rfl) (fun E h9 => ⟨Or.inr (Or.inl ⟨h9.1, r1K_2 qt qj (by unfold actP; rw [nt]; exact h9.2)⟩), rfl, rfl⟩)) (fun ad19 w20 H23 locs hp21 hW => ?_)
  obtain ⟨q27, e25, e26⟩ := hp21
  rw [e25, e26] at hW
  have aat : actP S (nI t) := by unfold actP; rw [nt]; exact q27
  refine lv_aload_n hx hb dX5_read_18 rfl (lv_at hl 2 rfl) ?_
  refine lv_aload hx hb dX5_read_19 (lv_at hl 0 rfl) ?_
  refine lv_aload_n hx hb dX5_read_21 rfl (lv_at hl 1 rfl) ?_
  refine kk_getN hx hb hts hown hE hW (hC.t ht) rfl hiRX4 1 (by decide) (hE.N 9 rfl) (fun _ h9 => h9) rfl dX5_read_22 ?_
  refine lv_aload_n hx hb dX5_read_25 rfl (lv_at hl 1 rfl) ?_
  refine kx_i (vx_runV (As := [.ref (ad (24 + j)), .int (S 2 t), .ref (ad (tkey t))]) (rest := []) ⟨hx, hb, hml, hown, hts⟩ (k_X5_readFromRecords_t l hnt D A ad w S nT nC nD nM nZ hC hN j hj (S 2 t) t ht) (cwV 3 hts gX5_read_X5_readFromRecords rfl rfl rfl (by decide +kernel) ⟨Nat.le_of_ble_eq_true rfl, Nat.le_of_ble_eq_true rfl⟩) (kV hE hW hC.u rfl _) rfl rfl hl.1 rfl (lv_room (Nat.le_of_ble_eq_true rfl)) dX5_read_26 ⟨Nat.le_of_ble_eq_true rfl, Nat.le_of_ble_eq_true rfl⟩) hW (kx_out hout hlocks (Nat.le_of_ble_eq_true rfl) (Nat.le_of_ble_eq_true rfl) (fun E h9 => ⟨Or.inr (Or.inr ⟨h9.1, r1K_0 qt qj aat, by rw [nt]; exact h9.2⟩), rfl, rfl⟩)) (fun r31 ad28 w29 H32 locs hp30 hW => ?_)
  obtain ⟨e1, e2, e3, hC, hF⟩ := hp30
  rw [e3] at hW
  exact vx_ret (ke_i hx hb hr hlocks (Nat.le_of_ble_eq_true rfl) (Nat.le_of_ble_eq_true rfl) dX5_read_29 hW (⟨by rw [nt]; exact e1, by rw [nt]; exact e2, r1K_0 qt qj aat, rfl, by rw [nj]; exact hC, hF⟩))

set_option maxHeartbeats 4000000 in
set_option maxRecDepth 100000 in
/-- k_X5_undoTo -/
theorem k_X5_undoTo (l : Launch) (hnt : l.stackTraces = false) (D : va_G) (A : Nat → Prop) (ad : Nat → Nat) (w : kWd) (S : St) (nT nC nD nM nZ : Nat) (hC : CW D S ad w nT nC) (hN : SN S nT nC nD nM nZ) (i k : Int32) : vx_Met l yX5_undoTo wsX5_undoTo ({ frames := 7, cells := 8, slots := 60, locals := 121 }) (kPc D A [.ref (ad 0), .int i, .int k] ad w) (kQi D A (fun v ad' w' => v = stV S i - k ∧ opK S i = 0 ∧ inP k 0 (stV S i) ∧ ad' = ad ∧ CW D (unS S i (stV S i - k)) ad w' nT nC ∧ FrC ad w ad w')) (kX D A (fun E => (E = xIO ∧ opK S i = 1) ∨ (E = xIS ∧ opK S i = 2) ∨ (E = xIA ∧ opK S i = 0 ∧ ¬ inP k 0 (stV S i))) ad w) 8 60 A := by
  refine vx_ofW (cc := cX5_undoTo) (maxL := 4) (ret := (some (.int))) (by decide) rfl ?_
  intro p e s m args below meth c s₁ B hml hout hv
  obtain ⟨rfl, hE, hW0, hI0, hA⟩ := hv
  have hx := B.exec
  have hb := B.bytes
  have hr := B.returns
  have hts := atoms_spec (ws := wsX5_undoTo) B.pre
  have hown : s.vm.findClass RX5 = some m.cls := findClass_of_methodNamed B.named
  have hlocks := B.notSynchronized
  have hiRX4 : ∀ w ∈ wsX40, w ∈ wsX5_undoTo := by decide +kernel
  have hW : kS D A s.heap ad w s.heap [] := ⟨hW0, hI0, va_S.rf, hA⟩
  have hl := lv_entry ([.ref (ad 0), .int i, .int k]) (n := 4) (Nat.le_of_ble_eq_true rfl)
  rw [lg_entry_eq]
  generalize (lg_sl ([.ref (ad 0), .int i, .int k]) ++ List.replicate (4 - (lg_sl ([.ref (ad 0), .int i, .int k])).length) Slot.unset).toArray = ls at hl ⊢
  have hl : lv_has ls 4 [(0, .ref (ad 0)), (1, .int i), (2, .int k)] := hl
  have h60 := hN.2.2.2.2.2.1
  have h512 := hN.2.2.2.2.2.2.1
  have hnv : nv (S 13 0) = nC := by rw [hN.2.1]; exact nv_nI (by omega)
  refine lv_aload_n hx hb dX5_undoTo_0 rfl (lv_at hl 0 rfl) ?_
  refine lv_iload_n hx hb dX5_undoTo_1 rfl (lv_at hl 1 rfl) ?_
  refine kx_q (vx_runV (As := [.int i]) (rest := []) ⟨hx, hb, hml, hown, hts⟩ (k_X5_transactionNumbered l hnt D A ad w S nT nC nD nM nZ hC hN i) (cwV 1 hts gX5_undoTo_X5_transactionNumbered rfl rfl rfl (by decide +kernel) ⟨Nat.le_of_ble_eq_true rfl, Nat.le_of_ble_eq_true rfl⟩) (kV hE hW hC.u rfl _) rfl rfl hl.1 rfl (lv_room (Nat.le_of_ble_eq_true rfl)) dX5_undoTo_2 ⟨Nat.le_of_ble_eq_true rfl, Nat.le_of_ble_eq_true rfl⟩) hW (kx_out hout hlocks (Nat.le_of_ble_eq_true rfl) (Nat.le_of_ble_eq_true rfl) (fun E h9 => ⟨Or.inl ⟨h9.1, opK_1 h9.2⟩, rfl, rfl⟩)) (fun r4 ad1 w2 H5 locs hp3 hW => ?_)
  obtain ⟨e6, q9, e7, e8⟩ := hp3
  rw [e7, e8] at hW
  subst e6
  obtain ⟨j, hj, rfl⟩ := (trP_iff hN).mp q9
  have qj : trP S (nI j) := (trP_iff hN).mpr ⟨j, hj, rfl⟩
  have nj : nv (nI j) = j := nv_nI (by omega)
  refine W.eq (g2 := F0 m 5 ls [.ref (ad (tkey j))]) (by rw [nv_nI (by omega)]; rfl) ?_
  refine lv_astore_n (lv' := [(3, .ref (ad (tkey j))), (0, .ref (ad 0)), (1, .int (nI j)), (2, .int k)]) hx hb dX5_undoTo_5 rfl hl (by decide) rfl (fun ls hl => ?_)
  refine lv_aload_n hx hb dX5_undoTo_6 rfl (lv_at hl 1 rfl) ?_
  refine lv_aload_n hx hb dX5_undoTo_7 rfl (lv_at hl 0 rfl) ?_
  refine kx_v (vx_runV (As := [.ref (ad (tkey j))]) (rest := []) ⟨hx, hb, hml, hown, hts⟩ (k_X5_refuseIfEnded l hnt D A ad w S nT nC nD nM nZ hC hN j hj) (cwV 1 hts gX5_undoTo_X5_refuseIfEnded rfl rfl rfl (by decide +kernel) ⟨Nat.le_of_ble_eq_true rfl, Nat.le_of_ble_eq_true rfl⟩) (kV hE hW hC.u rfl _) rfl rfl hl.1 rfl (lv_room (Nat.le_of_ble_eq_true rfl)) dX5_undoTo_8 ⟨Nat.le_of_ble_eq_true rfl, Nat.le_of_ble_eq_true rfl⟩) hW (kx_out hout hlocks (Nat.le_of_ble_eq_true rfl) (Nat.le_of_ble_eq_true rfl) (fun E h9 => ⟨Or.inr (Or.inl ⟨h9.1, opK_2 qj (by unfold actP; rw [nj]; exact h9.2)⟩), rfl, rfl⟩)) (fun ad10 w11 H14 locs hp12 hW => ?_)
  obtain ⟨q18, e16, e17⟩ := hp12
  rw [e16, e17] at hW
  have aaj : actP S (nI j) := by unfold actP; rw [nj]; exact q18
  obtain ⟨q, hqC, hq⟩ := stL_le S (nI j) nC
  have hs : stV S (nI j) = nI q := by unfold stV; rw [hnv]; exact hq
  refine lv_iload_n hx hb dX5_undoTo_11 rfl (lv_at hl 3 rfl) ?_
  refine lv_if_lt (tgt := 23) hx hb dX5_undoTo_12 (by decide) (fun c19 => ?_) (fun c19 => ?_)
  · exact kk_throw kf_IA hx hb hnt hown (fun w h => hts w (List.mem_cons_of_mem _ (List.mem_append_left _ (List.mem_append_left _ (List.mem_append_right _ h))))) (hts (.classLink RX5 48 "java/lang/IllegalArgumentException") (by decide +kernel)) (hts (.initialized "java/lang/IllegalArgumentException") (by decide +kernel)) hE hW (hl.1.trans hml.symm) (hE.R 5 rfl) dX5_undoTo_23 dX5_undoTo_26 dX5_undoTo_27 dX5_undoTo_29 dX5_undoTo_32 hout ⟨Nat.le_of_ble_eq_true rfl, Nat.le_of_ble_eq_true rfl, Nat.le_of_ble_eq_true rfl, Nat.le_of_ble_eq_true rfl⟩ hlocks (Or.inr (Or.inr ⟨rfl, opK_0 qj aaj, fun z => z.1 c19⟩)) (Nat.le_of_ble_eq_true rfl) (Nat.le_of_ble_eq_true rfl)
  · refine lv_iload_n hx hb dX5_undoTo_15 rfl (lv_at hl 3 rfl) ?_
    refine lv_aload_n hx hb dX5_undoTo_16 rfl (lv_at hl 0 rfl) ?_
    refine kk_getN hx hb hts hown hE hW (hC.t hj) rfl hiRX4 4 (by decide) (hE.N 14 rfl) (fun _ h9 => h9) rfl dX5_undoTo_17 ?_
    rw [hq]
    refine lv_icmp_le (tgt := 33) hx hb dX5_undoTo_20 (by decide) (fun c20 => ?_) (fun c20 => ?_)
    · have hin : inP k 0 (nI q) := ⟨c19, Int32.not_lt.mpr c20⟩
      obtain ⟨kp, hkp, rfl⟩ := inP_N (by omega) hin
      refine lv_aload_n hx hb dX5_undoTo_33 rfl (lv_at hl 1 rfl) ?_
      refine lv_aload_n hx hb dX5_undoTo_34 rfl (lv_at hl 0 rfl) ?_
      refine lv_iload_n hx hb dX5_undoTo_35 rfl (lv_at hl 3 rfl) ?_
      refine kk_i (va_runV (As := [.ref (ad (tkey j)), .int (nI kp)]) (rest := []) ⟨hx, hb, hml, hown, hts⟩ (k_X5_undoDownTo l D A ad w S nT nC nD nM nZ hC hN j hj q kp hq hkp hqC) (cwV 2 hts gX5_undoTo_X5_undoDownTo rfl rfl rfl (by decide +kernel) ⟨Nat.le_of_ble_eq_true rfl, Nat.le_of_ble_eq_true rfl⟩) (kV hE hW hC.u rfl _) rfl rfl hl.1 rfl (lv_room (Nat.le_of_ble_eq_true rfl)) dX5_undoTo_36 ⟨Nat.le_of_ble_eq_true rfl, Nat.le_of_ble_eq_true rfl⟩) hW (fun r24 ad21 w22 H25 locs hp23 hW => ?_)
      obtain ⟨e1, e2, hC, hF⟩ := hp23
      rw [e2] at hW
      exact vx_ret (ke_i hx hb hr hlocks (Nat.le_of_ble_eq_true rfl) (Nat.le_of_ble_eq_true rfl) dX5_undoTo_39 hW (⟨by rw [hs]; exact e1, opK_0 qj aaj, by rw [hs]; exact hin, rfl, by unfold unS; rw [hs, hnv]; exact hC, hF⟩))
    · exact kk_throw kf_IA hx hb hnt hown (fun w h => hts w (List.mem_cons_of_mem _ (List.mem_append_left _ (List.mem_append_left _ (List.mem_append_right _ h))))) (hts (.classLink RX5 48 "java/lang/IllegalArgumentException") (by decide +kernel)) (hts (.initialized "java/lang/IllegalArgumentException") (by decide +kernel)) hE hW (hl.1.trans hml.symm) (hE.R 5 rfl) dX5_undoTo_23 dX5_undoTo_26 dX5_undoTo_27 dX5_undoTo_29 dX5_undoTo_32 hout ⟨Nat.le_of_ble_eq_true rfl, Nat.le_of_ble_eq_true rfl, Nat.le_of_ble_eq_true rfl, Nat.le_of_ble_eq_true rfl⟩ hlocks (Or.inr (Or.inr ⟨rfl, opK_0 qj aaj, fun z => z.2 (by rw [hs]; exact Int32.not_le.mp c20)⟩)) (Nat.le_of_ble_eq_true rfl) (Nat.le_of_ble_eq_true rfl)

set_option maxHeartbeats 4000000 in
set_option maxRecDepth 100000 in
/-- k_X5_undo -/
theorem k_X5_undo (l : Launch) (hnt : l.stackTraces = false) (D : va_G) (A : Nat → Prop) (ad : Nat → Nat) (w : kWd) (S : St) (nT nC nD nM nZ : Nat) (hC : CW D S ad w nT nC) (hN : SN S nT nC nD nM nZ) (i : Int32) : vx_Met l yX5_undo wsX5_undo ({ frames := 7, cells := 8, slots := 60, locals := 121 }) (kPc D A [.ref (ad 0), .int i] ad w) (kQi D A (fun v ad' w' => v = stV S i ∧ opK S i = 0 ∧ ad' = ad ∧ CW D (sA (unS S i (stV S i)) 1 (nv i) 2) ad w' nT nC ∧ FrC ad w ad w')) (kX D A (fun E => (E = xIO ∧ opK S i = 1) ∨ (E = xIS ∧ opK S i = 2)) ad w) 8 60 A := by
  refine vx_ofW (cc := cX5_undo) (maxL := 4) (ret := (some (.int))) (by decide) rfl ?_
  intro p e s m args below meth c s₁ B hml hout hv
  obtain ⟨rfl, hE, hW0, hI0, hA⟩ := hv
  have hx := B.exec
  have hb := B.bytes
  have hr := B.returns
  have hts := atoms_spec (ws := wsX5_undo) B.pre
  have hown : s.vm.findClass RX5 = some m.cls := findClass_of_methodNamed B.named
  have hlocks := B.notSynchronized
  have hiRX4 : ∀ w ∈ wsX40, w ∈ wsX5_undo := by decide +kernel
  have hW : kS D A s.heap ad w s.heap [] := ⟨hW0, hI0, va_S.rf, hA⟩
  have hl := lv_entry ([.ref (ad 0), .int i]) (n := 4) (Nat.le_of_ble_eq_true rfl)
  rw [lg_entry_eq]
  generalize (lg_sl ([.ref (ad 0), .int i]) ++ List.replicate (4 - (lg_sl ([.ref (ad 0), .int i])).length) Slot.unset).toArray = ls at hl ⊢
  have hl : lv_has ls 4 [(0, .ref (ad 0)), (1, .int i)] := hl
  have h60 := hN.2.2.2.2.2.1
  have h512 := hN.2.2.2.2.2.2.1
  have hnv : nv (S 13 0) = nC := by rw [hN.2.1]; exact nv_nI (by omega)
  refine lv_aload_n hx hb dX5_undo_0 rfl (lv_at hl 0 rfl) ?_
  refine lv_iload_n hx hb dX5_undo_1 rfl (lv_at hl 1 rfl) ?_
  refine kx_q (vx_runV (As := [.int i]) (rest := []) ⟨hx, hb, hml, hown, hts⟩ (k_X5_transactionNumbered l hnt D A ad w S nT nC nD nM nZ hC hN i) (cwV 1 hts gX5_undo_X5_transactionNumbered rfl rfl rfl (by decide +kernel) ⟨Nat.le_of_ble_eq_true rfl, Nat.le_of_ble_eq_true rfl⟩) (kV hE hW hC.u rfl _) rfl rfl hl.1 rfl (lv_room (Nat.le_of_ble_eq_true rfl)) dX5_undo_2 ⟨Nat.le_of_ble_eq_true rfl, Nat.le_of_ble_eq_true rfl⟩) hW (kx_out hout hlocks (Nat.le_of_ble_eq_true rfl) (Nat.le_of_ble_eq_true rfl) (fun E h9 => ⟨Or.inl ⟨h9.1, opK_1 h9.2⟩, rfl, rfl⟩)) (fun r4 ad1 w2 H5 locs hp3 hW => ?_)
  obtain ⟨e6, q9, e7, e8⟩ := hp3
  rw [e7, e8] at hW
  subst e6
  obtain ⟨j, hj, rfl⟩ := (trP_iff hN).mp q9
  have qj : trP S (nI j) := (trP_iff hN).mpr ⟨j, hj, rfl⟩
  have nj : nv (nI j) = j := nv_nI (by omega)
  refine W.eq (g2 := F0 m 5 ls [.ref (ad (tkey j))]) (by rw [nv_nI (by omega)]; rfl) ?_
  refine lv_astore_n (lv' := [(2, .ref (ad (tkey j))), (0, .ref (ad 0)), (1, .int (nI j))]) hx hb dX5_undo_5 rfl hl (by decide) rfl (fun ls hl => ?_)
  refine lv_aload_n hx hb dX5_undo_6 rfl (lv_at hl 1 rfl) ?_
  refine lv_aload_n hx hb dX5_undo_7 rfl (lv_at hl 0 rfl) ?_
  refine kx_v (vx_runV (As := [.ref (ad (tkey j))]) (rest := []) ⟨hx, hb, hml, hown, hts⟩ (k_X5_refuseIfEnded l hnt D A ad w S nT nC nD nM nZ hC hN j hj) (cwV 1 hts gX5_undo_X5_refuseIfEnded rfl rfl rfl (by decide +kernel) ⟨Nat.le_of_ble_eq_true rfl, Nat.le_of_ble_eq_true rfl⟩) (kV hE hW hC.u rfl _) rfl rfl hl.1 rfl (lv_room (Nat.le_of_ble_eq_true rfl)) dX5_undo_8 ⟨Nat.le_of_ble_eq_true rfl, Nat.le_of_ble_eq_true rfl⟩) hW (kx_out hout hlocks (Nat.le_of_ble_eq_true rfl) (Nat.le_of_ble_eq_true rfl) (fun E h9 => ⟨Or.inr ⟨h9.1, opK_2 qj (by unfold actP; rw [nj]; exact h9.2)⟩, rfl, rfl⟩)) (fun ad10 w11 H14 locs hp12 hW => ?_)
  obtain ⟨q18, e16, e17⟩ := hp12
  rw [e16, e17] at hW
  have aaj : actP S (nI j) := by unfold actP; rw [nj]; exact q18
  obtain ⟨q, hqC, hq⟩ := stL_le S (nI j) nC
  have hs : stV S (nI j) = nI q := by unfold stV; rw [hnv]; exact hq
  refine lv_aload_n hx hb dX5_undo_11 rfl (lv_at hl 1 rfl) ?_
  refine lv_aload_n hx hb dX5_undo_12 rfl (lv_at hl 0 rfl) ?_
  refine lv_iconst (v := 0) hx hb dX5_undo_13 (by decide) ?_
  refine kk_i (va_runV (As := [.ref (ad (tkey j)), .int 0]) (rest := []) ⟨hx, hb, hml, hown, hts⟩ (k_X5_undoDownTo l D A ad w S nT nC nD nM nZ hC hN j hj q 0 hq (Nat.zero_le q) hqC) (cwV 2 hts gX5_undo_X5_undoDownTo rfl rfl rfl (by decide +kernel) ⟨Nat.le_of_ble_eq_true rfl, Nat.le_of_ble_eq_true rfl⟩) (kV hE hW hC.u rfl _) rfl rfl hl.1 rfl (lv_room (Nat.le_of_ble_eq_true rfl)) dX5_undo_14 ⟨Nat.le_of_ble_eq_true rfl, Nat.le_of_ble_eq_true rfl⟩) hW (fun r22 ad19 w20 H23 locs hp21 hW => ?_)
  obtain ⟨e1, e2, hC, hF⟩ := hp21
  rw [e2] at hW
  rw [show nI q - nI 0 = nI q from Int32.sub_zero _] at e1 hC
  subst e1
  have hu1 : unL (nI j) nC (nI q) S 1 = S 1 := unL_n (by decide) (by decide) _ _ _
  refine lv_istore_n (lv' := [(3, .int (nI q)), (2, .ref (ad (tkey j))), (0, .ref (ad 0)), (1, .int (nI j))]) hx hb dX5_undo_17 rfl hl (by decide) rfl (fun ls hl => ?_)
  refine lv_aload_n hx hb dX5_undo_18 rfl (lv_at hl 1 rfl) ?_
  refine lv_iconst (v := 0) hx hb dX5_undo_19 (by decide) ?_
  refine kk_putN hx hb hts hown hE hW (hC.t hj) rfl hiRX4 tyX4 tyX4_ok nmX4 2 (by decide) (hE.N 11 rfl) (fun _ h9 => h9) rfl (ty := tyX4 2) (tyX4_ok 2 (by decide)) rfl rfl (Nat.le_of_ble_eq_true rfl) dX5_undo_20 (fun H26 locs w24 e25 hW => ?_)
  have f27 := up_s e25
  refine lv_iload_n hx hb dX5_undo_23 rfl (lv_at hl 0 rfl) ?_
  have hC := hC.upT (S' := sA (unL (nI j) nC (nI q) S) 1 j 2) (t := j) (e25.trans (by
    show va_up _ _ (some (.inr (5, [.int (nI j), .int (unL (nI j) nC (nI q) S 2 j), .int 0, .int (if unL (nI j) nC (nI q) S 1 j = 1 then unL (nI j) nC (nI q) S 3 j else -1), .int (stL (unL (nI j) nC (nI q) S) (nI j) nC)])) : Option va_E) = va_up _ _ (some (.inr (5, [.int (nI j), .int (unL (nI j) nC (nI q) S 2 j), .int (bI (upd (unL (nI j) nC (nI q) S 1) j 2 j = 0)), .int (if upd (unL (nI j) nC (nI q) S 1) j 2 j = 1 then unL (nI j) nC (nI q) S 3 j else -1), .int (stL (sA (unL (nI j) nC (nI q) S) 1 j 2) (nI j) nC)])) : Option va_E)
    rw [upd_s, stL_c (S := unL (nI j) nC (nI q) S) (S' := sA (unL (nI j) nC (nI q) S) 1 j 2) rfl rfl, hu1, q18]
    rfl)) (fun _ h => upd_n h) (fun _ _ => rfl) (fun _ h _ => sU_n h)
  exact vx_ret (ke_i hx hb hr hlocks (Nat.le_of_ble_eq_true rfl) (Nat.le_of_ble_eq_true rfl) dX5_undo_24 hW (⟨hs.symm, opK_0 qj aaj, rfl, by unfold unS; rw [hs, hnv, nj]; exact hC, hF.up e25 (by show 100 + 2 * j < 2000; omega)⟩))

set_option maxHeartbeats 4000000 in
set_option maxRecDepth 100000 in
/-- k_X5_commit -/
theorem k_X5_commit (l : Launch) (hnt : l.stackTraces = false) (D : va_G) (A : Nat → Prop) (ad : Nat → Nat) (w : kWd) (S : St) (nT nC nD nM nZ : Nat) (hC : CW D S ad w nT nC) (hN : SN S nT nC nD nM nZ) (i : Int32) : vx_Met l yX5_commit wsX5_commit ({ frames := 7, cells := 8, slots := 60, locals := 121 }) (kPc D A [.ref (ad 0), .int i] ad w) (kQi D A (fun v ad' w' => v = S 11 0 + 1 ∧ opK S i = 0 ∧ ad' = ad ∧ CW D (cmM S (nv i)) ad w' nT nC ∧ FrC ad w ad w')) (kX D A (fun E => (E = xIO ∧ opK S i = 1) ∨ (E = xIS ∧ opK S i = 2)) ad w) 8 60 A := by
  refine vx_ofW (cc := cX5_commit) (maxL := 3) (ret := (some (.int))) (by decide) rfl ?_
  intro p e s m args below meth c s₁ B hml hout hv
  obtain ⟨rfl, hE, hW0, hI0, hA⟩ := hv
  have hx := B.exec
  have hb := B.bytes
  have hr := B.returns
  have hts := atoms_spec (ws := wsX5_commit) B.pre
  have hown : s.vm.findClass RX5 = some m.cls := findClass_of_methodNamed B.named
  have hlocks := B.notSynchronized
  have hiRX4 : ∀ w ∈ wsX40, w ∈ wsX5_commit := by decide +kernel
  have hiRX5 : ∀ w ∈ wsX50, w ∈ wsX5_commit := by decide +kernel
  have hW : kS D A s.heap ad w s.heap [] := ⟨hW0, hI0, va_S.rf, hA⟩
  have hl := lv_entry ([.ref (ad 0), .int i]) (n := 3) (Nat.le_of_ble_eq_true rfl)
  rw [lg_entry_eq]
  generalize (lg_sl ([.ref (ad 0), .int i]) ++ List.replicate (3 - (lg_sl ([.ref (ad 0), .int i])).length) Slot.unset).toArray = ls at hl ⊢
  have hl : lv_has ls 3 [(0, .ref (ad 0)), (1, .int i)] := hl
  have h60 := hN.2.2.2.2.2.1
  have h512 := hN.2.2.2.2.2.2.1
  refine lv_aload_n hx hb dX5_commit_0 rfl (lv_at hl 0 rfl) ?_
  refine lv_iload_n hx hb dX5_commit_1 rfl (lv_at hl 1 rfl) ?_
  refine kx_q (vx_runV (As := [.int i]) (rest := []) ⟨hx, hb, hml, hown, hts⟩ (k_X5_transactionNumbered l hnt D A ad w S nT nC nD nM nZ hC hN i) (cwV 1 hts gX5_commit_X5_transactionNumbered rfl rfl rfl (by decide +kernel) ⟨Nat.le_of_ble_eq_true rfl, Nat.le_of_ble_eq_true rfl⟩) (kV hE hW hC.u rfl _) rfl rfl hl.1 rfl (lv_room (Nat.le_of_ble_eq_true rfl)) dX5_commit_2 ⟨Nat.le_of_ble_eq_true rfl, Nat.le_of_ble_eq_true rfl⟩) hW (kx_out hout hlocks (Nat.le_of_ble_eq_true rfl) (Nat.le_of_ble_eq_true rfl) (fun E h9 => ⟨Or.inl ⟨h9.1, opK_1 h9.2⟩, rfl, rfl⟩)) (fun r4 ad1 w2 H5 locs hp3 hW => ?_)
  obtain ⟨e6, q9, e7, e8⟩ := hp3
  rw [e7, e8] at hW
  subst e6
  obtain ⟨j, hj, rfl⟩ := (trP_iff hN).mp q9
  have qj : trP S (nI j) := (trP_iff hN).mpr ⟨j, hj, rfl⟩
  have nj : nv (nI j) = j := nv_nI (by omega)
  refine W.eq (g2 := F0 m 5 ls [.ref (ad (tkey j))]) (by rw [nv_nI (by omega)]; rfl) ?_
  refine lv_astore_n (lv' := [(2, .ref (ad (tkey j))), (0, .ref (ad 0)), (1, .int (nI j))]) hx hb dX5_commit_5 rfl hl (by decide) rfl (fun ls hl => ?_)
  refine lv_aload_n hx hb dX5_commit_6 rfl (lv_at hl 1 rfl) ?_
  refine lv_aload_n hx hb dX5_commit_7 rfl (lv_at hl 0 rfl) ?_
  refine kx_v (vx_runV (As := [.ref (ad (tkey j))]) (rest := []) ⟨hx, hb, hml, hown, hts⟩ (k_X5_refuseIfEnded l hnt D A ad w S nT nC nD nM nZ hC hN j hj) (cwV 1 hts gX5_commit_X5_refuseIfEnded rfl rfl rfl (by decide +kernel) ⟨Nat.le_of_ble_eq_true rfl, Nat.le_of_ble_eq_true rfl⟩) (kV hE hW hC.u rfl _) rfl rfl hl.1 rfl (lv_room (Nat.le_of_ble_eq_true rfl)) dX5_commit_8 ⟨Nat.le_of_ble_eq_true rfl, Nat.le_of_ble_eq_true rfl⟩) hW (kx_out hout hlocks (Nat.le_of_ble_eq_true rfl) (Nat.le_of_ble_eq_true rfl) (fun E h9 => ⟨Or.inr ⟨h9.1, opK_2 qj (by unfold actP; rw [nj]; exact h9.2)⟩, rfl, rfl⟩)) (fun ad10 w11 H14 locs hp12 hW => ?_)
  obtain ⟨q18, e16, e17⟩ := hp12
  rw [e16, e17] at hW
  have aaj : actP S (nI j) := by unfold actP; rw [nj]; exact q18
  refine lv_aload_n hx hb dX5_commit_11 rfl (lv_at hl 1 rfl) ?_
  refine lv_dup hx hb dX5_commit_12 rfl ?_
  refine kk_get hx hb hts hown hE hW hC.u rfl hiRX5 5 (by decide) (hts (.fieldLink RX5 35 "UndoCellar" "momentOfNow" "I") (by decide +kernel)) (fun _ h9 => h9) rfl dX5_commit_13 ?_
  refine lv_iconst (v := 1) hx hb dX5_commit_16 (by decide) ?_
  refine lv_iadd hx hb dX5_commit_17 ?_
  refine kk_put hx hb hts hown hE hW hC.u rfl hiRX5 tyX5 tyX5_ok nmX5 5 (by decide) (hts (.fieldLink RX5 35 "UndoCellar" "momentOfNow" "I") (by decide +kernel)) (fun _ h9 => h9) rfl (ty := tyX5 5) (tyX5_ok 5 (by decide)) rfl rfl (Nat.le_of_ble_eq_true rfl) dX5_commit_18 (fun H21 locs w19 e20 hW => ?_)
  have f22 := up_s e20
  have hC := hC.upU (S' := sS S 11 (S 11 0 + 1)) e20 (fun c h => sU_n (by omega))
  have f0 := hC.u
  have ft := hC.t hj
  refine lv_aload_n hx hb dX5_commit_21 rfl (lv_at hl 0 rfl) ?_
  refine lv_aload_n hx hb dX5_commit_22 rfl (lv_at hl 1 rfl) ?_
  refine kk_get hx hb hts hown hE hW f0 rfl hiRX5 5 (by decide) (hts (.fieldLink RX5 35 "UndoCellar" "momentOfNow" "I") (by decide +kernel)) (fun _ h9 => h9) rfl dX5_commit_23 ?_
  refine kk_putN hx hb hts hown hE hW ft rfl hiRX4 tyX4 tyX4_ok nmX4 3 (by decide) (hE.N 12 rfl) (fun _ h9 => h9) rfl (ty := tyX4 3) (tyX4_ok 3 (by decide)) rfl rfl (Nat.le_of_ble_eq_true rfl) dX5_commit_26 (fun H25 locs w23 e24 hW => ?_)
  have f26 := (up_n e24 (by show 0 ≠ 100 + 2 * j; omega)).trans f0
  have f27 := up_s e24
  refine lv_aload_n hx hb dX5_commit_29 rfl (lv_at hl 0 rfl) ?_
  refine lv_iconst (v := 0) hx hb dX5_commit_30 (by decide) ?_
  refine kk_putN hx hb hts hown hE hW f27 rfl hiRX4 tyX4 tyX4_ok nmX4 2 (by decide) (hE.N 11 rfl) (fun _ h9 => h9) rfl (ty := tyX4 2) (tyX4_ok 2 (by decide)) rfl rfl (Nat.le_of_ble_eq_true rfl) dX5_commit_31 (fun H30 locs w28 e29 hW => ?_)
  have f31 := (up_n e29 (by show 0 ≠ 100 + 2 * j; omega)).trans f26
  have f32 := up_s e29
  refine lv_aload_n hx hb dX5_commit_34 rfl (lv_at hl 1 rfl) ?_
  refine kk_get hx hb hts hown hE hW f31 rfl hiRX5 5 (by decide) (hts (.fieldLink RX5 35 "UndoCellar" "momentOfNow" "I") (by decide +kernel)) (fun _ h9 => h9) rfl dX5_commit_35 ?_
  have he := e29
  rw [e24, va_up_up] at he
  have hC := hC.upT (S' := cmM S j) (t := j) (he.trans (by
    show va_up _ _ (some (.inr (5, [.int (nI j), .int (S 2 j), .int 0, .int (S 11 0 + 1), .int (stL (sS S 11 (S 11 0 + 1)) (nI j) nC)])) : Option va_E) = va_up _ _ (some (.inr (5, [.int (nI j), .int (S 2 j), .int (bI (upd (S 1) j 1 j = 0)), .int (if upd (S 1) j 1 j = 1 then upd (S 3) j (S 11 0 + 1) j else -1), .int (stL (cmM S j) (nI j) nC)])) : Option va_E)
    rw [upd_s, upd_s, stL_c (S := sS S 11 (S 11 0 + 1)) (S' := cmM S j) rfl rfl]
    rfl)) (fun _ h => upd_n h) (fun _ h => upd_n h) (fun _ h1 h3 => (sU_n h3).trans (sU_n h1))
  exact vx_ret (ke_i hx hb hr hlocks (Nat.le_of_ble_eq_true rfl) (Nat.le_of_ble_eq_true rfl) dX5_commit_38 hW (⟨rfl, opK_0 qj aaj, rfl, by rw [nj]; exact hC, ((FrC.rf.up e20 (by omega)).up e24 (by show 100 + 2 * j < 2000; omega)).up e29 (by show 100 + 2 * j < 2000; omega)⟩))

