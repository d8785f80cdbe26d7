/-! the reference: loops -/
set_option maxHeartbeats 4000000 in
set_option maxRecDepth 100000 in
/-- c_lockOn -/
theorem c_lockOn (l : Launch) (D : va_G) (A : Nat → Prop) (ad : Nat → Nat) (w : kWd) (S : St) (hM : MW D S ad w w) (r : Int32) (nC : Nat) (hC : S 13 0 = nI nC) (hn : nC ≤ 2000) (hby : ∀ k, k < nC → vp_in (S 4 k) 60) : Met l yX6_lockOn wsX6_lockOn ({ frames := 1, cells := 0, slots := 0, locals := 21 }) (kPc D A [.ref (ad 2000), .int r] ad w) (kQi D A (fun v ad' w' => v = lockV S r ∧ ad' = ad ∧ w' = w)) 0 0 A := by
  refine Met.ofW (cc := cX6_lockOn) (maxL := 4) (ret := (some (.int))) (by decide) rfl ?_
  intro p e s m args below meth c s₁ B hml hv
  obtain ⟨rfl, hE, hW0, hI0, hA⟩ := hv
  have hx := B.exec
  have hb := B.bytes
  have hr := B.returns
  have hts := atoms_spec (ws := wsX6_lockOn) B.pre
  have hown : s.vm.findClass RX6 = some m.cls := findClass_of_methodNamed B.named
  have hlocks := B.notSynchronized
  have hiRX6 : ∀ w ∈ wsX60, w ∈ wsX6_lockOn := by decide +kernel
  have hW : kS D A s.heap ad w s.heap [] := ⟨hW0, hI0, va_S.rf, hA⟩
  have hl := lv_entry ([.ref (ad 2000), .int r]) (n := 4) (Nat.le_of_ble_eq_true rfl)
  rw [lg_entry_eq]
  generalize (lg_sl ([.ref (ad 2000), .int r]) ++ List.replicate (4 - (lg_sl ([.ref (ad 2000), .int r])).length) Slot.unset).toArray = ls at hl ⊢
  have hl : lv_has ls 4 [(0, .ref (ad 2000)), (1, .int r)] := hl
  have hnv : nv (S 13 0) = nC := by rw [hC]; exact nI_clamp (by omega)
  have loop : ∀ (d i : Nat), i + d = nC → ∀ ls, lv_has ls 4 [(3, .int (nI i)), (2, .int (lkL S r i)), (0, .ref (ad 2000)), (1, .int r)] → W p l e ({ frames := 1, cells := 0, slots := 0, locals := 21 }) s m ([.ref (ad 2000), .int r] : List Value).toArray below meth c s.heap [] 0 0 (MQ below (kQi D A (fun v ad' w' => v = lockV S r ∧ ad' = ad ∧ w' = w)) ([.ref (ad 2000), .int r] : List Value).toArray s 0 0 A) (F0 m 4 ls []) := by
    intro d
    induction d with
    | zero =>
      intro i hi ls hl
      obtain rfl : i = nC := by omega
      refine lv_iload_n hx hb dX6_lockOn_4 rfl (lv_at hl 0 rfl) ?_
      refine lv_aload_n hx hb dX6_lockOn_5 rfl (lv_at hl 2 rfl) ?_
      refine kk_get hx hb hts hown hE hW hM.o rfl hiRX6 7 (by decide) (hts (.fieldLink RX6 55 "UndoCellarModel" "changes" "I") (by decide +kernel)) (fun _ h9 => h9) rfl dX6_lockOn_6 ?_
      refine lv_icmp_ge (tgt := 48) hx hb dX6_lockOn_9 (by decide) (fun _ => ?_) (fun c9 => absurd (by rw [hC]; exact nI_le (Nat.le_refl _) (by omega)) c9)
      refine lv_iload_n hx hb dX6_lockOn_48 rfl (lv_at hl 1 rfl) ?_
      refine lv_iconst (v := (-1)) hx hb dX6_lockOn_49 (by decide) ?_
      refine lv_icmp_eq (tgt := 65) hx hb dX6_lockOn_50 (by decide) (fun c1 => ?_) (fun c1 => ?_)
      · refine lv_iconst (v := (-1)) hx hb dX6_lockOn_65 (by decide) ?_
        exact ke_i hx hb hr hlocks (Nat.le_of_ble_eq_true rfl) (Nat.le_of_ble_eq_true rfl) dX6_lockOn_66 hW (⟨by unfold lockV; rw [hnv]; exact (if_neg (fun q => q.1 c1)).symm, rfl, rfl⟩)
      · refine lv_aload_n hx hb dX6_lockOn_53 rfl (lv_at hl 2 rfl) ?_
        refine lv_iload_n hx hb dX6_lockOn_54 rfl (lv_at hl 1 rfl) ?_
        have hx9 : vp_in (lkL S r i) 60 := by
          rcases lkL_mem S r i with h | ⟨k, h1, h2, -⟩
          · exact absurd h c1
          · rw [h2]; exact hby k h1
        refine kk_i (va_runV (As := [.int (lkL S r i)]) (rest := []) ⟨hx, hb, hml, hown, hts⟩ (c_isActive l D A ad w (S) hM.re (lkL S r i) hx9) (cwV 1 hts gX6_lockOn_X6_isActive rfl rfl rfl (by decide +kernel) ⟨Nat.le_of_ble_eq_true rfl, Nat.le_of_ble_eq_true rfl⟩) (kV hE hW hM.o rfl _) rfl rfl hl.1 rfl (lv_room (Nat.le_of_ble_eq_true rfl)) dX6_lockOn_55 ⟨Nat.le_of_ble_eq_true rfl, Nat.le_of_ble_eq_true rfl⟩) hW (fun r5 ad2 w3 H6 locs hp4 hW => ?_)
        obtain ⟨e7, e8, e9⟩ := hp4
        rw [e8, e9] at hW
        subst e7
        refine lv_if_eq (tgt := 65) hx hb dX6_lockOn_58 (by decide) (fun c10 => ?_) (fun c10 => ?_)
        · refine lv_iconst (v := (-1)) hx hb dX6_lockOn_65 (by decide) ?_
          exact ke_i hx hb hr hlocks (Nat.le_of_ble_eq_true rfl) (Nat.le_of_ble_eq_true rfl) dX6_lockOn_66 hW (⟨by unfold lockV; rw [hnv]; exact (if_neg (fun q => bI_f c10 q.2)).symm, rfl, rfl⟩)
        · refine lv_iload_n hx hb dX6_lockOn_61 rfl (lv_at hl 1 rfl) ?_
          refine lv_goto (tgt := 66) hx hb dX6_lockOn_62 (by decide) ?_
          exact ke_i hx hb hr hlocks (Nat.le_of_ble_eq_true rfl) (Nat.le_of_ble_eq_true rfl) dX6_lockOn_66 hW (⟨by unfold lockV; rw [hnv]; exact (if_pos ⟨c1, bI_t c10⟩).symm, rfl, rfl⟩)
    | succ d ih =>
      intro i hi ls hl
      refine lv_iload_n hx hb dX6_lockOn_4 rfl (lv_at hl 0 rfl) ?_
      refine lv_aload_n hx hb dX6_lockOn_5 rfl (lv_at hl 2 rfl) ?_
      refine kk_get hx hb hts hown hE hW hM.o rfl hiRX6 7 (by decide) (hts (.fieldLink RX6 55 "UndoCellarModel" "changes" "I") (by decide +kernel)) (fun _ h9 => h9) rfl dX6_lockOn_6 ?_
      refine lv_icmp_ge (tgt := 48) hx hb dX6_lockOn_9 (by decide) (fun c9 => absurd c9 (by rw [hC]; exact nI_ge (by omega) (by omega))) (fun _ => ?_)
      refine lv_aload_n hx hb dX6_lockOn_12 rfl (lv_at hl 2 rfl) ?_
      refine kk_get hx hb hts hown hE hW hM.o rfl hiRX6 9 (by decide) (hts (.fieldLink RX6 29 "UndoCellarModel" "row" "[I") (by decide +kernel)) (fun _ h9 => h9) rfl dX6_lockOn_13 ?_
      refine lv_iload_n hx hb dX6_lockOn_16 rfl (lv_at hl 0 rfl) ?_
      refine W_join (P := fun v => v = lkL S r (i + 1)) (pj := 41) (rj := []) (lj := ls) (fun v hv => ?_) (fun J41 => ?_)
      · subst hv
        refine lv_istore_n (lv' := [(2, .int (lkL S r (i + 1))), (3, .int (nI i)), (0, .ref (ad 2000)), (1, .int r)]) hx hb dX6_lockOn_41 rfl hl (by decide) rfl (fun ls hl => ?_)
        refine lv_iinc (v := nI (i + 1)) (lv' := [(3, .int (nI (i + 1))), (2, .int (lkL S r (i + 1))), (0, .ref (ad 2000)), (1, .int r)]) hx hb dX6_lockOn_42 hl (k := 1) rfl (nI_1 i) (by decide) rfl (fun ls hl => ?_)
        refine lv_goto (tgt := 4) hx hb dX6_lockOn_45 (by decide) ?_
        exact ih (i + 1) (by omega) ls hl
      · refine kk_iald hx hb hE hW hM.a5 (vp_in_nI (by omega) (by omega)) dX6_lockOn_17 ?_
        rw [nI_clamp (show i < 2 ^ 31 by omega)]
        refine lv_iload_n hx hb dX6_lockOn_18 rfl (lv_at hl 3 rfl) ?_
        refine lv_icmp_ne (tgt := 40) hx hb dX6_lockOn_19 (by decide) (fun c11 => ?_) (fun c11 => ?_)
        · refine lv_iload_n hx hb dX6_lockOn_40 rfl (lv_at hl 1 rfl) ?_
          exact J41 _ (lkL_n (fun q => c11 q.1))
        · refine lv_aload_n hx hb dX6_lockOn_22 rfl (lv_at hl 2 rfl) ?_
          refine kk_get hx hb hts hown hE hW hM.o rfl hiRX6 11 (by decide) (hts (.fieldLink RX6 35 "UndoCellarModel" "isVoid" "[Z") (by decide +kernel)) (fun _ h9 => h9) rfl dX6_lockOn_23 ?_
          refine lv_iload_n hx hb dX6_lockOn_26 rfl (lv_at hl 0 rfl) ?_
          refine kk_zald hx hb hE hW hM.a7 (vp_in_nI (by omega) (by omega)) dX6_lockOn_27 ?_
          rw [nI_clamp (show i < 2 ^ 31 by omega)]
          refine lv_if_ne (tgt := 40) hx hb dX6_lockOn_28 (by decide) (fun c12 => ?_) (fun c12 => ?_)
          · refine lv_iload_n hx hb dX6_lockOn_40 rfl (lv_at hl 1 rfl) ?_
            exact J41 _ (lkL_n (fun q => c12 q.2))
          · refine lv_aload_n hx hb dX6_lockOn_31 rfl (lv_at hl 2 rfl) ?_
            refine kk_get hx hb hts hown hE hW hM.o rfl hiRX6 8 (by decide) (hts (.fieldLink RX6 26 "UndoCellarModel" "by" "[I") (by decide +kernel)) (fun _ h9 => h9) rfl dX6_lockOn_32 ?_
            refine lv_iload_n hx hb dX6_lockOn_35 rfl (lv_at hl 0 rfl) ?_
            refine kk_iald hx hb hE hW hM.a4 (vp_in_nI (by omega) (by omega)) dX6_lockOn_36 ?_
            rw [nI_clamp (show i < 2 ^ 31 by omega)]
            refine lv_goto (tgt := 41) hx hb dX6_lockOn_37 (by decide) ?_
            exact J41 _ (lkL_s c11 c12)
  refine lv_iconst (v := (-1)) hx hb dX6_lockOn_0 (by decide) ?_
  refine lv_istore_n (lv' := [(2, .int (-1)), (0, .ref (ad 2000)), (1, .int r)]) hx hb dX6_lockOn_1 rfl hl (by decide) rfl (fun ls hl => ?_)
  refine lv_iconst (v := 0) hx hb dX6_lockOn_2 (by decide) ?_
  refine lv_istore_n (lv' := [(3, .int 0), (2, .int (-1)), (0, .ref (ad 2000)), (1, .int r)]) hx hb dX6_lockOn_3 rfl hl (by decide) rfl (fun ls hl => ?_)
  exact loop nC 0 (by omega) ls (by rw [nI_0]; exact hl)

set_option maxHeartbeats 4000000 in
set_option maxRecDepth 100000 in
/-- c_standing -/
theorem c_standing (l : Launch) (D : va_G) (A : Nat → Prop) (ad : Nat → Nat) (w : kWd) (S : St) (hM : MW D S ad w w) (t : Int32) (nC : Nat) (hC : S 13 0 = nI nC) (hn : nC ≤ 2000)  : Met l yX6_standing wsX6_standing ({ frames := 0, cells := 0, slots := 0, locals := 0 }) (kPc D A [.ref (ad 2000), .int t] ad w) (kQi D A (fun v ad' w' => v = stV S t ∧ ad' = ad ∧ w' = w)) 0 0 A := by
  refine Met.ofW (cc := cX6_standing) (maxL := 4) (ret := (some (.int))) (by decide) rfl ?_
  intro p e s m args below meth c s₁ B hml hv
  obtain ⟨rfl, hE, hW0, hI0, hA⟩ := hv
  have hx := B.exec
  have hb := B.bytes
  have hr := B.returns
  have hts := atoms_spec (ws := wsX6_standing) B.pre
  have hown : s.vm.findClass RX6 = some m.cls := findClass_of_methodNamed B.named
  have hlocks := B.notSynchronized
  have hiRX6 : ∀ w ∈ wsX60, w ∈ wsX6_standing := by decide +kernel
  have hW : kS D A s.heap ad w s.heap [] := ⟨hW0, hI0, va_S.rf, hA⟩
  have hl := lv_entry ([.ref (ad 2000), .int t]) (n := 4) (Nat.le_of_ble_eq_true rfl)
  rw [lg_entry_eq]
  generalize (lg_sl ([.ref (ad 2000), .int t]) ++ List.replicate (4 - (lg_sl ([.ref (ad 2000), .int t])).length) Slot.unset).toArray = ls at hl ⊢
  have hl : lv_has ls 4 [(0, .ref (ad 2000)), (1, .int t)] := hl
  have hnv : nv (S 13 0) = nC := by rw [hC]; exact nI_clamp (by omega)
  have loop : ∀ (d i : Nat), i + d = nC → ∀ ls, lv_has ls 4 [(3, .int (nI i)), (2, .int (stL S t i)), (0, .ref (ad 2000)), (1, .int t)] → W p l e ({ frames := 0, cells := 0, slots := 0, locals := 0 }) s m ([.ref (ad 2000), .int t] : List Value).toArray below meth c s.heap [] 0 0 (MQ below (kQi D A (fun v ad' w' => v = stV S t ∧ ad' = ad ∧ w' = w)) ([.ref (ad 2000), .int t] : List Value).toArray s 0 0 A) (F0 m 4 ls []) := by
    intro d
    induction d with
    | zero =>
      intro i hi ls hl
      obtain rfl : i = nC := by omega
      refine lv_iload_n hx hb dX6_standing_4 rfl (lv_at hl 0 rfl) ?_
      refine lv_aload_n hx hb dX6_standing_5 rfl (lv_at hl 2 rfl) ?_
      refine kk_get hx hb hts hown hE hW hM.o rfl hiRX6 7 (by decide) (hts (.fieldLink RX6 55 "UndoCellarModel" "changes" "I") (by decide +kernel)) (fun _ h9 => h9) rfl dX6_standing_6 ?_
      refine lv_icmp_ge (tgt := 45) hx hb dX6_standing_9 (by decide) (fun _ => ?_) (fun c9 => absurd (by rw [hC]; exact nI_le (Nat.le_refl _) (by omega)) c9)
      refine lv_iload_n hx hb dX6_standing_45 rfl (lv_at hl 1 rfl) ?_
      exact ke_i hx hb hr hlocks (Nat.le_of_ble_eq_true rfl) (Nat.le_of_ble_eq_true rfl) dX6_standing_46 hW (⟨by unfold stV; rw [hnv], rfl, rfl⟩)
    | succ d ih =>
      intro i hi ls hl
      refine lv_iload_n hx hb dX6_standing_4 rfl (lv_at hl 0 rfl) ?_
      refine lv_aload_n hx hb dX6_standing_5 rfl (lv_at hl 2 rfl) ?_
      refine kk_get hx hb hts hown hE hW hM.o rfl hiRX6 7 (by decide) (hts (.fieldLink RX6 55 "UndoCellarModel" "changes" "I") (by decide +kernel)) (fun _ h9 => h9) rfl dX6_standing_6 ?_
      refine lv_icmp_ge (tgt := 45) hx hb dX6_standing_9 (by decide) (fun c9 => absurd c9 (by rw [hC]; exact nI_ge (by omega) (by omega))) (fun _ => ?_)
      refine lv_iload_n hx hb dX6_standing_12 rfl (lv_at hl 1 rfl) ?_
      refine lv_aload_n hx hb dX6_standing_13 rfl (lv_at hl 2 rfl) ?_
      refine kk_get hx hb hts hown hE hW hM.o rfl hiRX6 8 (by decide) (hts (.fieldLink RX6 26 "UndoCellarModel" "by" "[I") (by decide +kernel)) (fun _ h9 => h9) rfl dX6_standing_14 ?_
      refine lv_iload_n hx hb dX6_standing_17 rfl (lv_at hl 0 rfl) ?_
      refine W_join (P := fun v => v = bI (S 4 i = t ∧ S 7 i = 0)) (pj := 37) (rj := [.int (stL S t i)]) (lj := ls) (fun v hv => ?_) (fun J37 => ?_)
      · subst hv
        refine lv_iadd hx hb dX6_standing_37 ?_
        refine lv_istore_n (lv' := [(2, .int ((stL S t i) + (bI (S 4 i = t ∧ S 7 i = 0)))), (3, .int (nI i)), (0, .ref (ad 2000)), (1, .int t)]) hx hb dX6_standing_38 rfl hl (by decide) rfl (fun ls hl => ?_)
        refine lv_iinc (v := nI (i + 1)) (lv' := [(3, .int (nI (i + 1))), (2, .int ((stL S t i) + (bI (S 4 i = t ∧ S 7 i = 0)))), (0, .ref (ad 2000)), (1, .int t)]) hx hb dX6_standing_39 hl (k := 1) rfl (nI_1 i) (by decide) rfl (fun ls hl => ?_)
        refine lv_goto (tgt := 4) hx hb dX6_standing_42 (by decide) ?_
        exact ih (i + 1) (by omega) ls hl
      · refine kk_iald hx hb hE hW hM.a4 (vp_in_nI (by omega) (by omega)) dX6_standing_18 ?_
        rw [nI_clamp (show i < 2 ^ 31 by omega)]
        refine lv_iload_n hx hb dX6_standing_19 rfl (lv_at hl 3 rfl) ?_
        refine lv_icmp_ne (tgt := 36) hx hb dX6_standing_20 (by decide) (fun c1 => ?_) (fun c1 => ?_)
        · refine lv_iconst (v := 0) hx hb dX6_standing_36 (by decide) ?_
          exact J37 _ ((bI_0 (fun q => c1 q.1)).symm)
        · refine lv_aload_n hx hb dX6_standing_23 rfl (lv_at hl 2 rfl) ?_
          refine kk_get hx hb hts hown hE hW hM.o rfl hiRX6 11 (by decide) (hts (.fieldLink RX6 35 "UndoCellarModel" "isVoid" "[Z") (by decide +kernel)) (fun _ h9 => h9) rfl dX6_standing_24 ?_
          refine lv_iload_n hx hb dX6_standing_27 rfl (lv_at hl 0 rfl) ?_
          refine kk_zald hx hb hE hW hM.a7 (vp_in_nI (by omega) (by omega)) dX6_standing_28 ?_
          rw [nI_clamp (show i < 2 ^ 31 by omega)]
          refine lv_if_ne (tgt := 36) hx hb dX6_standing_29 (by decide) (fun c2 => ?_) (fun c2 => ?_)
          · refine lv_iconst (v := 0) hx hb dX6_standing_36 (by decide) ?_
            exact J37 _ ((bI_0 (fun q => c2 q.2)).symm)
          · refine lv_iconst (v := 1) hx hb dX6_standing_32 (by decide) ?_
            refine lv_goto (tgt := 37) hx hb dX6_standing_33 (by decide) ?_
            exact J37 _ ((bI_1 ⟨c1, c2⟩).symm)
  refine lv_iconst (v := 0) hx hb dX6_standing_0 (by decide) ?_
  refine lv_istore_n (lv' := [(2, .int 0), (0, .ref (ad 2000)), (1, .int t)]) hx hb dX6_standing_1 rfl hl (by decide) rfl (fun ls hl => ?_)
  refine lv_iconst (v := 0) hx hb dX6_standing_2 (by decide) ?_
  refine lv_istore_n (lv' := [(3, .int 0), (2, .int 0), (0, .ref (ad 2000)), (1, .int t)]) hx hb dX6_standing_3 rfl hl (by decide) rfl (fun ls hl => ?_)
  exact loop nC 0 (by omega) ls (by rw [nI_0]; exact hl)

set_option maxHeartbeats 4000000 in
set_option maxRecDepth 100000 in
/-- c_hasSpace -/
theorem c_hasSpace (l : Launch) (D : va_G) (A : Nat → Prop) (ad : Nat → Nat) (w : kWd) (S : St) (hM : MW D S ad w w) (nD : Nat) (hD : S 14 0 = nI nD) (hd : nD < 2000) (hby : ¬ S 13 0 - S 14 0 < S 10 0 → vp_in (S 4 nD) 60) : Met l yX6_hasSpace wsX6_hasSpace ({ frames := 1, cells := 0, slots := 0, locals := 21 }) (kPc D A [.ref (ad 2000)] ad w) (kQi D A (fun v ad' w' => v = bI (spP S) ∧ ad' = ad ∧ w' = w)) 0 0 A := by
  refine Met.ofW (cc := cX6_hasSpace) (maxL := 1) (ret := (some (.boolean))) (by decide) rfl ?_
  intro p e s m args below meth c s₁ B hml hv
  obtain ⟨rfl, hE, hW0, hI0, hA⟩ := hv
  have hx := B.exec
  have hb := B.bytes
  have hr := B.returns
  have hts := atoms_spec (ws := wsX6_hasSpace) B.pre
  have hown : s.vm.findClass RX6 = some m.cls := findClass_of_methodNamed B.named
  have hlocks := B.notSynchronized
  have hiRX6 : ∀ w ∈ wsX60, w ∈ wsX6_hasSpace := by decide +kernel
  have hW : kS D A s.heap ad w s.heap [] := ⟨hW0, hI0, va_S.rf, hA⟩
  have hl := lv_entry ([.ref (ad 2000)]) (n := 1) (Nat.le_of_ble_eq_true rfl)
  rw [lg_entry_eq]
  generalize (lg_sl ([.ref (ad 2000)]) ++ List.replicate (1 - (lg_sl ([.ref (ad 2000)])).length) Slot.unset).toArray = ls at hl ⊢
  have hl : lv_has ls 1 [(0, .ref (ad 2000))] := hl
  have hnv : nv (S 14 0) = nD := by rw [hD]; exact nI_clamp (by omega)
  refine lv_aload_n hx hb dX6_hasSpace_0 rfl (lv_at hl 0 rfl) ?_
  refine kk_get hx hb hts hown hE hW hM.o rfl hiRX6 7 (by decide) (hts (.fieldLink RX6 55 "UndoCellarModel" "changes" "I") (by decide +kernel)) (fun _ h9 => h9) rfl dX6_hasSpace_1 ?_
  refine lv_aload_n hx hb dX6_hasSpace_4 rfl (lv_at hl 0 rfl) ?_
  refine kk_get hx hb hts hown hE hW hM.o rfl hiRX6 12 (by decide) (hts (.fieldLink RX6 58 "UndoCellarModel" "dropped" "I") (by decide +kernel)) (fun _ h9 => h9) rfl dX6_hasSpace_5 ?_
  refine lv_isub hx hb dX6_hasSpace_8 ?_
  refine lv_aload_n hx hb dX6_hasSpace_9 rfl (lv_at hl 0 rfl) ?_
  refine kk_get hx hb hts hown hE hW hM.o rfl hiRX6 1 (by decide) (hts (.fieldLink RX6 13 "UndoCellarModel" "size" "I") (by decide +kernel)) (fun _ h9 => h9) rfl dX6_hasSpace_10 ?_
  refine lv_icmp_lt (tgt := 32) hx hb dX6_hasSpace_13 (by decide) (fun c1 => ?_) (fun c1 => ?_)
  · refine lv_iconst (v := 1) hx hb dX6_hasSpace_32 (by decide) ?_
    refine lv_goto (tgt := 37) hx hb dX6_hasSpace_33 (by decide) ?_
    exact ke_z hx hb hr hlocks (Nat.le_of_ble_eq_true rfl) (Nat.le_of_ble_eq_true rfl) dX6_hasSpace_37 (by first | exact Or.inl rfl | exact Or.inr rfl | assumption) hW (⟨(bI_1 (Or.inl c1)).symm, rfl, rfl⟩)
  · refine lv_aload_n hx hb dX6_hasSpace_16 rfl (lv_at hl 0 rfl) ?_
    refine lv_aload_n hx hb dX6_hasSpace_17 rfl (lv_at hl 0 rfl) ?_
    refine kk_get hx hb hts hown hE hW hM.o rfl hiRX6 8 (by decide) (hts (.fieldLink RX6 26 "UndoCellarModel" "by" "[I") (by decide +kernel)) (fun _ h9 => h9) rfl dX6_hasSpace_18 ?_
    refine lv_aload_n hx hb dX6_hasSpace_21 rfl (lv_at hl 0 rfl) ?_
    refine kk_get hx hb hts hown hE hW hM.o rfl hiRX6 12 (by decide) (hts (.fieldLink RX6 58 "UndoCellarModel" "dropped" "I") (by decide +kernel)) (fun _ h9 => h9) rfl dX6_hasSpace_22 ?_
    refine kk_iald hx hb hE hW hM.a4 (by rw [hD]; exact vp_in_nI hd (by omega)) dX6_hasSpace_25 ?_
    refine kk_i (va_runV (As := [.int (S 4 (nv (S 14 0)))]) (rest := []) ⟨hx, hb, hml, hown, hts⟩ (c_isActive l D A ad w (S) hM.re (S 4 (nv (S 14 0))) (by rw [hnv]; exact hby c1)) (cwV 1 hts gX6_hasSpace_X6_isActive rfl rfl rfl (by decide +kernel) ⟨Nat.le_of_ble_eq_true rfl, Nat.le_of_ble_eq_true rfl⟩) (kV hE hW hM.o rfl _) rfl rfl hl.1 rfl (lv_room (Nat.le_of_ble_eq_true rfl)) dX6_hasSpace_26 ⟨Nat.le_of_ble_eq_true rfl, Nat.le_of_ble_eq_true rfl⟩) hW (fun r5 ad2 w3 H6 locs hp4 hW => ?_)
    obtain ⟨e7, e8, e9⟩ := hp4
    rw [e8, e9] at hW
    subst e7
    refine lv_if_ne (tgt := 36) hx hb dX6_hasSpace_29 (by decide) (fun c10 => ?_) (fun c10 => ?_)
    · refine lv_iconst (v := 0) hx hb dX6_hasSpace_36 (by decide) ?_
      exact ke_z hx hb hr hlocks (Nat.le_of_ble_eq_true rfl) (Nat.le_of_ble_eq_true rfl) dX6_hasSpace_37 (by first | exact Or.inl rfl | exact Or.inr rfl | assumption) hW (⟨(bI_0 (fun q => q.elim c1 (fun z => z (bI_t c10)))).symm, rfl, rfl⟩)
    · refine lv_iconst (v := 1) hx hb dX6_hasSpace_32 (by decide) ?_
      refine lv_goto (tgt := 37) hx hb dX6_hasSpace_33 (by decide) ?_
      exact ke_z hx hb hr hlocks (Nat.le_of_ble_eq_true rfl) (Nat.le_of_ble_eq_true rfl) dX6_hasSpace_37 (by first | exact Or.inl rfl | exact Or.inr rfl | assumption) hW (⟨(bI_1 (Or.inr (bI_f c10))).symm, rfl, rfl⟩)

set_option maxHeartbeats 4000000 in
set_option maxRecDepth 100000 in
/-- c_slotFor -/
theorem c_slotFor (l : Launch) (D : va_G) (A : Nat → Prop) (ad : Nat → Nat) (w : kWd) (S : St) (hM : MW D S ad w w) (t : Int32) (b : Nat) (hb3 : b < 3) (hsl : ∀ k, k < 6 → S 8 k ≠ -1 → vp_in (S 8 k) 60) : Met l yX6_slotFor wsX6_slotFor ({ frames := 1, cells := 0, slots := 0, locals := 21 }) (kPc D A [.ref (ad 2000), .int t, .int (nI b)] ad w) (kQi D A (fun v ad' w' => v = slF S t b ∧ ad' = ad ∧ w' = w)) 0 0 A := by
  refine Met.ofW (cc := cX6_slotFor) (maxL := 6) (ret := (some (.int))) (by decide) rfl ?_
  intro p e s m args below meth c s₁ B hml hv
  obtain ⟨rfl, hE, hW0, hI0, hA⟩ := hv
  have hx := B.exec
  have hb := B.bytes
  have hr := B.returns
  have hts := atoms_spec (ws := wsX6_slotFor) B.pre
  have hown : s.vm.findClass RX6 = some m.cls := findClass_of_methodNamed B.named
  have hlocks := B.notSynchronized
  have hiRX6 : ∀ w ∈ wsX60, w ∈ wsX6_slotFor := by decide +kernel
  have hW : kS D A s.heap ad w s.heap [] := ⟨hW0, hI0, va_S.rf, hA⟩
  have hl := lv_entry ([.ref (ad 2000), .int t, .int (nI b)]) (n := 6) (Nat.le_of_ble_eq_true rfl)
  rw [lg_entry_eq]
  generalize (lg_sl ([.ref (ad 2000), .int t, .int (nI b)]) ++ List.replicate (6 - (lg_sl ([.ref (ad 2000), .int t, .int (nI b)])).length) Slot.unset).toArray = ls at hl ⊢
  have hl : lv_has ls 6 [(0, .ref (ad 2000)), (1, .int t), (2, .int (nI b))] := hl
  have loop : ∀ (j : Nat) (o f : Int32), j ≤ 2 → slL S t (2 * b) j o f = slL S t (2 * b) 2 (-1) (-1) → ∀ (H : Heap) (locs : List Loc), kS D A s.heap ad w H locs → ∀ ls, lv_has ls 6 [(5, .int (nI (2 * b + j) - 1)), (4, .int f), (3, .int o), (0, .ref (ad 2000)), (1, .int t), (2, .int (nI b))] → W p l e ({ frames := 1, cells := 0, slots := 0, locals := 21 }) s m ([.ref (ad 2000), .int t, .int (nI b)] : List Value).toArray below meth c H locs 0 0 (MQ below (kQi D A (fun v ad' w' => v = slF S t b ∧ ad' = ad ∧ w' = w)) ([.ref (ad 2000), .int t, .int (nI b)] : List Value).toArray s 0 0 A) (F0 m 14 ls []) := by
    intro j
    induction j with
    | zero =>
      intro o f hj he H locs hW ls hl
      have hl : lv_has ls 6 [(5, .int (nI (2 * b) - 1)), (4, .int f), (3, .int o), (0, .ref (ad 2000)), (1, .int t), (2, .int (nI b))] := hl
      refine lv_iload hx hb dX6_slotFor_14 (lv_at hl 0 rfl) ?_
      refine lv_iconst (v := 2) hx hb dX6_slotFor_16 (by decide) ?_
      refine lv_iload_n hx hb dX6_slotFor_17 rfl (lv_at hl 5 rfl) ?_
      refine lv_imul hx hb dX6_slotFor_18 ?_
      rw [nI_2]
      refine lv_icmp_lt (tgt := 80) hx hb dX6_slotFor_19 (by decide) (fun _ => ?_) (fun c9 => absurd (by rcases (show b = 0 ∨ b = 1 ∨ b = 2 by omega) with rfl | rfl | rfl <;> decide) c9)
      refine lv_iload_n hx hb dX6_slotFor_80 rfl (lv_at hl 2 rfl) ?_
      refine lv_iconst (v := (-1)) hx hb dX6_slotFor_81 (by decide) ?_
      have e1 : (slL S t (2 * b) 2 (-1) (-1)).1 = o := by rw [← he]; rfl
      have e2 : (slL S t (2 * b) 2 (-1) (-1)).2 = f := by rw [← he]; rfl
      refine lv_icmp_ne (tgt := 90) hx hb dX6_slotFor_82 (by decide) (fun c1 => ?_) (fun c1 => ?_)
      · refine lv_iload_n hx hb dX6_slotFor_90 rfl (lv_at hl 2 rfl) ?_
        exact ke_i hx hb hr hlocks (Nat.le_of_ble_eq_true rfl) (Nat.le_of_ble_eq_true rfl) dX6_slotFor_91 hW (⟨by rw [← slL_2, e1, e2]; exact (if_neg c1).symm, rfl, rfl⟩)
      · refine lv_iload hx hb dX6_slotFor_85 (lv_at hl 1 rfl) ?_
        refine lv_goto (tgt := 91) hx hb dX6_slotFor_87 (by decide) ?_
        exact ke_i hx hb hr hlocks (Nat.le_of_ble_eq_true rfl) (Nat.le_of_ble_eq_true rfl) dX6_slotFor_91 hW (⟨by rw [← slL_2, e1, e2]; exact (if_pos c1).symm, rfl, rfl⟩)
    | succ j ih =>
      intro o f hj he H locs hW ls hl
      have hl : lv_has ls 6 [(5, .int (nI (2 * b + j))), (4, .int f), (3, .int o), (0, .ref (ad 2000)), (1, .int t), (2, .int (nI b))] := by rw [← Nat.add_assoc, nI_dn] at hl; exact hl
      refine lv_iload hx hb dX6_slotFor_14 (lv_at hl 0 rfl) ?_
      refine lv_iconst (v := 2) hx hb dX6_slotFor_16 (by decide) ?_
      refine lv_iload_n hx hb dX6_slotFor_17 rfl (lv_at hl 5 rfl) ?_
      refine lv_imul hx hb dX6_slotFor_18 ?_
      rw [nI_2]
      refine lv_icmp_lt (tgt := 80) hx hb dX6_slotFor_19 (by decide) (fun c9 => absurd c9 (nI_nlt (by omega) (by omega))) (fun _ => ?_)
      refine lv_aload_n hx hb dX6_slotFor_22 rfl (lv_at hl 3 rfl) ?_
      refine kk_get hx hb hts hown hE hW hM.o rfl hiRX6 13 (by decide) (hts (.fieldLink RX6 39 "UndoCellarModel" "slot" "[I") (by decide +kernel)) (fun _ h9 => h9) rfl dX6_slotFor_23 ?_
      refine lv_iload hx hb dX6_slotFor_26 (lv_at hl 0 rfl) ?_
      refine W_join (P := fun v => v = (if S 8 (2 * b + j) = t then nI (2 * b + j) else o)) (pj := 39) (rj := []) (lj := ls) (fun v hv => ?_) (fun J39 => ?_)
      · subst hv
        refine lv_istore_n (lv' := [(3, .int ((if S 8 (2 * b + j) = t then nI (2 * b + j) else o))), (5, .int (nI (2 * b + j))), (4, .int f), (0, .ref (ad 2000)), (1, .int t), (2, .int (nI b))]) hx hb dX6_slotFor_39 rfl hl (by decide) rfl (fun ls hl => ?_)
        refine lv_aload_n hx hb dX6_slotFor_40 rfl (lv_at hl 3 rfl) ?_
        refine kk_get hx hb hts hown hE hW hM.o rfl hiRX6 13 (by decide) (hts (.fieldLink RX6 39 "UndoCellarModel" "slot" "[I") (by decide +kernel)) (fun _ h9 => h9) rfl dX6_slotFor_41 ?_
        refine lv_iload hx hb dX6_slotFor_44 (lv_at hl 1 rfl) ?_
        refine W_joinH (D := D) (A := A) (w := w) (ad := ad) (P := fun v => v = (if freeP S (2 * b + j) then nI (2 * b + j) else f)) (pj := 72) (rj := []) (lj := ls) (fun v H2 locs hv hW => ?_) (fun J72 => ?_)
        · subst hv
          refine lv_istore (lv' := [(4, .int ((if freeP S (2 * b + j) then nI (2 * b + j) else f))), (3, .int ((if S 8 (2 * b + j) = t then nI (2 * b + j) else o))), (5, .int (nI (2 * b + j))), (0, .ref (ad 2000)), (1, .int t), (2, .int (nI b))]) hx hb dX6_slotFor_72 hl (by decide) rfl (fun ls hl => ?_)
          refine lv_iinc (v := nI (2 * b + j) - 1) (lv' := [(5, .int (nI (2 * b + j) - 1)), (4, .int ((if freeP S (2 * b + j) then nI (2 * b + j) else f))), (3, .int ((if S 8 (2 * b + j) = t then nI (2 * b + j) else o))), (0, .ref (ad 2000)), (1, .int t), (2, .int (nI b))]) hx hb dX6_slotFor_74 hl (k := 2) rfl (i_sub1 _) (by decide) rfl (fun ls hl => ?_)
          refine lv_goto (tgt := 14) hx hb dX6_slotFor_77 (by decide) ?_
          exact ih _ _ (by omega) (by rw [← he]; rfl) _ _ hW ls hl
        · refine kk_iald hx hb hE hW hM.a8 (vp_in_nI (by omega) (by omega)) dX6_slotFor_46 ?_
          rw [nI_clamp (show 2 * b + j < 2 ^ 31 by omega)]
          refine lv_iconst (v := (-1)) hx hb dX6_slotFor_47 (by decide) ?_
          refine lv_icmp_eq (tgt := 65) hx hb dX6_slotFor_48 (by decide) (fun c3 => ?_) (fun c3 => ?_)
          · refine lv_iload hx hb dX6_slotFor_65 (lv_at hl 1 rfl) ?_
            refine lv_goto (tgt := 72) hx hb dX6_slotFor_67 (by decide) ?_
            exact J72 _ _ _ ((if_pos (Or.inl c3)).symm) hW
          · refine lv_aload_n hx hb dX6_slotFor_51 rfl (lv_at hl 3 rfl) ?_
            refine lv_aload_n hx hb dX6_slotFor_52 rfl (lv_at hl 3 rfl) ?_
            refine kk_get hx hb hts hown hE hW hM.o rfl hiRX6 13 (by decide) (hts (.fieldLink RX6 39 "UndoCellarModel" "slot" "[I") (by decide +kernel)) (fun _ h9 => h9) rfl dX6_slotFor_53 ?_
            refine lv_iload hx hb dX6_slotFor_56 (lv_at hl 1 rfl) ?_
            refine kk_iald hx hb hE hW hM.a8 (vp_in_nI (by omega) (by omega)) dX6_slotFor_58 ?_
            rw [nI_clamp (show 2 * b + j < 2 ^ 31 by omega)]
            refine kk_i (va_runV (As := [.int (S 8 (2 * b + j))]) (rest := []) ⟨hx, hb, hml, hown, hts⟩ (c_isActive l D A ad w (S) hM.re (S 8 (2 * b + j)) (hsl _ (by omega) c3)) (cwV 1 hts gX6_slotFor_X6_isActive rfl rfl rfl (by decide +kernel) ⟨Nat.le_of_ble_eq_true rfl, Nat.le_of_ble_eq_true rfl⟩) (kV hE hW hM.o rfl _) rfl rfl hl.1 rfl (lv_room (Nat.le_of_ble_eq_true rfl)) dX6_slotFor_59 ⟨Nat.le_of_ble_eq_true rfl, Nat.le_of_ble_eq_true rfl⟩) hW (fun r7 ad4 w5 H8 locs hp6 hW => ?_)
            obtain ⟨e9, e10, e11⟩ := hp6
            rw [e10, e11] at hW
            subst e9
            refine lv_if_ne (tgt := 70) hx hb dX6_slotFor_62 (by decide) (fun c12 => ?_) (fun c12 => ?_)
            · refine lv_iload hx hb dX6_slotFor_70 (lv_at hl 2 rfl) ?_
              exact J72 _ _ _ ((if_neg (fun q => q.elim c3 (fun z => z (bI_t c12)))).symm) hW
            · refine lv_iload hx hb dX6_slotFor_65 (lv_at hl 1 rfl) ?_
              refine lv_goto (tgt := 72) hx hb dX6_slotFor_67 (by decide) ?_
              exact J72 _ _ _ ((if_pos (Or.inr (bI_f c12))).symm) hW
      · refine kk_iald hx hb hE hW hM.a8 (vp_in_nI (by omega) (by omega)) dX6_slotFor_28 ?_
        rw [nI_clamp (show 2 * b + j < 2 ^ 31 by omega)]
        refine lv_iload_n hx hb dX6_slotFor_29 rfl (lv_at hl 4 rfl) ?_
        refine lv_icmp_ne (tgt := 38) hx hb dX6_slotFor_30 (by decide) (fun c13 => ?_) (fun c13 => ?_)
        · refine lv_iload_n hx hb dX6_slotFor_38 rfl (lv_at hl 2 rfl) ?_
          exact J39 _ ((if_neg c13).symm)
        · refine lv_iload hx hb dX6_slotFor_33 (lv_at hl 0 rfl) ?_
          refine lv_goto (tgt := 39) hx hb dX6_slotFor_35 (by decide) ?_
          exact J39 _ ((if_pos c13).symm)
  refine lv_iconst (v := (-1)) hx hb dX6_slotFor_0 (by decide) ?_
  refine lv_istore_n (lv' := [(3, .int (-1)), (0, .ref (ad 2000)), (1, .int t), (2, .int (nI b))]) hx hb dX6_slotFor_1 rfl hl (by decide) rfl (fun ls hl => ?_)
  refine lv_iconst (v := (-1)) hx hb dX6_slotFor_2 (by decide) ?_
  refine lv_istore (lv' := [(4, .int (-1)), (3, .int (-1)), (0, .ref (ad 2000)), (1, .int t), (2, .int (nI b))]) hx hb dX6_slotFor_3 hl (by decide) rfl (fun ls hl => ?_)
  refine lv_iconst (v := 2) hx hb dX6_slotFor_5 (by decide) ?_
  refine lv_iload_n hx hb dX6_slotFor_6 rfl (lv_at hl 4 rfl) ?_
  refine lv_imul hx hb dX6_slotFor_7 ?_
  rw [nI_2]
  refine lv_iconst (v := 2) hx hb dX6_slotFor_8 (by decide) ?_
  refine lv_iadd hx hb dX6_slotFor_9 ?_
  refine lv_iconst (v := 1) hx hb dX6_slotFor_10 (by decide) ?_
  refine lv_isub hx hb dX6_slotFor_11 ?_
  refine lv_istore (lv' := [(5, .int (((nI (2 * b)) + 2) - 1)), (4, .int (-1)), (3, .int (-1)), (0, .ref (ad 2000)), (1, .int t), (2, .int (nI b))]) hx hb dX6_slotFor_12 hl (by decide) rfl (fun ls hl => ?_)
  exact loop 2 (-1) (-1) (Nat.le_refl 2) rfl _ _ hW ls (by rw [show nI (2 * b) + 2 = nI (2 * b + 2) from nI_add _ 2] at hl; exact hl)

set_option maxHeartbeats 4000000 in
set_option maxRecDepth 100000 in
/-- c_cleans -/
theorem c_cleans (l : Launch) (D : va_G) (A : Nat → Prop) (ad : Nat → Nat) (w : kWd) (S : St) (hM : MW D S ad w w) (b : Nat) (hb3 : b < 3) (hsl : ∀ k, k < 6 → S 8 k ≠ -1 → vp_in (S 8 k) 60) : Met l yX6_cleans wsX6_cleans ({ frames := 1, cells := 0, slots := 0, locals := 21 }) (kPc D A [.ref (ad 2000), .int (nI b)] ad w) (kQv D A (fun ad' w' => ad' = ad ∧ MW D (cleanS S b) ad w w')) 0 0 A := by
  refine Met.ofW (cc := cX6_cleans) (maxL := 3) (ret := none) (by decide) rfl ?_
  intro p e s m args below meth c s₁ B hml hv
  obtain ⟨rfl, hE, hW0, hI0, hA⟩ := hv
  have hx := B.exec
  have hb := B.bytes
  have hr := B.returns
  have hts := atoms_spec (ws := wsX6_cleans) B.pre
  have hown : s.vm.findClass RX6 = some m.cls := findClass_of_methodNamed B.named
  have hlocks := B.notSynchronized
  have hiRX6 : ∀ w ∈ wsX60, w ∈ wsX6_cleans := by decide +kernel
  have hW : kS D A s.heap ad w s.heap [] := ⟨hW0, hI0, va_S.rf, hA⟩
  have hl := lv_entry ([.ref (ad 2000), .int (nI b)]) (n := 3) (Nat.le_of_ble_eq_true rfl)
  rw [lg_entry_eq]
  generalize (lg_sl ([.ref (ad 2000), .int (nI b)]) ++ List.replicate (3 - (lg_sl ([.ref (ad 2000), .int (nI b)])).length) Slot.unset).toArray = ls at hl ⊢
  have hl : lv_has ls 3 [(0, .ref (ad 2000)), (1, .int (nI b))] := hl
  have loop : ∀ (d k : Nat) (T : St) (w1 : kWd) (H : Heap) (locs : List Loc), k + d = 2 * b + 2 → T 8 = S 8 → cleanL d k T = cleanS S b → MW D T ad w w1 → kS D A s.heap ad w1 H locs → ∀ ls, lv_has ls 3 [(2, .int (nI k)), (0, .ref (ad 2000)), (1, .int (nI b))] → W p l e ({ frames := 1, cells := 0, slots := 0, locals := 21 }) s m ([.ref (ad 2000), .int (nI b)] : List Value).toArray below meth c H locs 0 0 (MQ below (kQv D A (fun ad' w' => ad' = ad ∧ MW D (cleanS S b) ad w w')) ([.ref (ad 2000), .int (nI b)] : List Value).toArray s 0 0 A) (F0 m 4 ls []) := by
    intro d
    induction d with
    | zero =>
      intro k T w1 H locs hk h8 he hM hW ls hl
      refine lv_iload_n hx hb dX6_cleans_4 rfl (lv_at hl 0 rfl) ?_
      refine lv_iconst (v := 2) hx hb dX6_cleans_5 (by decide) ?_
      refine lv_iload_n hx hb dX6_cleans_6 rfl (lv_at hl 2 rfl) ?_
      refine lv_imul hx hb dX6_cleans_7 ?_
      rw [nI_2]
      refine lv_iconst (v := 2) hx hb dX6_cleans_8 (by decide) ?_
      refine lv_iadd hx hb dX6_cleans_9 ?_
      refine lv_icmp_ge (tgt := 68) hx hb dX6_cleans_10 (by decide) (fun _ => ?_) (fun c9 => absurd (by rw [show nI (2 * b) + 2 = nI (2 * b + 2) from nI_add _ 2]; exact nI_le (by omega) (by omega)) c9)
      exact ke_v hx hb hr hlocks (Nat.le_of_ble_eq_true rfl) (Nat.le_of_ble_eq_true rfl) dX6_cleans_68 hW (⟨rfl, by rw [← he]; exact hM⟩)
    | succ d ih =>
      intro k T w1 H locs hk h8 he hM hW ls hl
      refine lv_iload_n hx hb dX6_cleans_4 rfl (lv_at hl 0 rfl) ?_
      refine lv_iconst (v := 2) hx hb dX6_cleans_5 (by decide) ?_
      refine lv_iload_n hx hb dX6_cleans_6 rfl (lv_at hl 2 rfl) ?_
      refine lv_imul hx hb dX6_cleans_7 ?_
      rw [nI_2]
      refine lv_iconst (v := 2) hx hb dX6_cleans_8 (by decide) ?_
      refine lv_iadd hx hb dX6_cleans_9 ?_
      refine lv_icmp_ge (tgt := 68) hx hb dX6_cleans_10 (by decide) (fun c9 => absurd c9 (by rw [show nI (2 * b) + 2 = nI (2 * b + 2) from nI_add _ 2]; exact nI_ge (by omega) (by omega))) (fun _ => ?_)
      refine lv_aload_n hx hb dX6_cleans_13 rfl (lv_at hl 1 rfl) ?_
      refine kk_get hx hb hts hown hE hW hM.o rfl hiRX6 13 (by decide) (hts (.fieldLink RX6 39 "UndoCellarModel" "slot" "[I") (by decide +kernel)) (fun _ h9 => h9) rfl dX6_cleans_14 ?_
      refine lv_iload_n hx hb dX6_cleans_17 rfl (lv_at hl 0 rfl) ?_
      have hs8 : T 8 k ≠ -1 → vp_in (T 8 k) 60 := by rw [h8]; exact hsl k (by omega)
      refine kk_iald hx hb hE hW hM.a8 (vp_in_nI (by omega) (by omega)) dX6_cleans_18 ?_
      rw [nI_clamp (show k < 2 ^ 31 by omega)]
      refine lv_iconst (v := (-1)) hx hb dX6_cleans_19 (by decide) ?_
      refine lv_icmp_eq (tgt := 62) hx hb dX6_cleans_20 (by decide) (fun c1 => ?_) (fun c1 => ?_)
      · refine lv_iinc (v := nI (k + 1)) (lv' := [(2, .int (nI (k + 1))), (0, .ref (ad 2000)), (1, .int (nI b))]) hx hb dX6_cleans_62 hl (k := 0) rfl (nI_1 k) (by decide) rfl (fun ls hl => ?_)
        refine lv_goto (tgt := 4) hx hb dX6_cleans_65 (by decide) ?_
        exact ih (k + 1) T w1 _ _ (by omega) h8 (by rw [← he]; exact congrArg (cleanL d (k + 1)) (if_neg (fun q => q.1 c1)).symm) hM hW ls hl
      · refine lv_aload_n hx hb dX6_cleans_23 rfl (lv_at hl 1 rfl) ?_
        refine lv_aload_n hx hb dX6_cleans_24 rfl (lv_at hl 1 rfl) ?_
        refine kk_get hx hb hts hown hE hW hM.o rfl hiRX6 13 (by decide) (hts (.fieldLink RX6 39 "UndoCellarModel" "slot" "[I") (by decide +kernel)) (fun _ h9 => h9) rfl dX6_cleans_25 ?_
        refine lv_iload_n hx hb dX6_cleans_28 rfl (lv_at hl 0 rfl) ?_
        refine kk_iald hx hb hE hW hM.a8 (vp_in_nI (by omega) (by omega)) dX6_cleans_29 ?_
        rw [nI_clamp (show k < 2 ^ 31 by omega)]
        refine kk_i (va_runV (As := [.int (T 8 k)]) (rest := []) ⟨hx, hb, hml, hown, hts⟩ (c_isActive l D A ad w1 (T) hM.re (T 8 k) (hs8 c1)) (cwV 1 hts gX6_cleans_X6_isActive rfl rfl rfl (by decide +kernel) ⟨Nat.le_of_ble_eq_true rfl, Nat.le_of_ble_eq_true rfl⟩) (kV hE hW hM.o rfl _) rfl rfl hl.1 rfl (lv_room (Nat.le_of_ble_eq_true rfl)) dX6_cleans_30 ⟨Nat.le_of_ble_eq_true rfl, Nat.le_of_ble_eq_true rfl⟩) hW (fun r5 ad2 w3 H6 locs hp4 hW => ?_)
        obtain ⟨e7, e8, e9⟩ := hp4
        rw [e8, e9] at hW
        subst e7
        refine lv_if_ne (tgt := 62) hx hb dX6_cleans_33 (by decide) (fun c10 => ?_) (fun c10 => ?_)
        · refine lv_iinc (v := nI (k + 1)) (lv' := [(2, .int (nI (k + 1))), (0, .ref (ad 2000)), (1, .int (nI b))]) hx hb dX6_cleans_62 hl (k := 0) rfl (nI_1 k) (by decide) rfl (fun ls hl => ?_)
          refine lv_goto (tgt := 4) hx hb dX6_cleans_65 (by decide) ?_
          exact ih (k + 1) T w1 _ _ (by omega) h8 (by rw [← he]; exact congrArg (cleanL d (k + 1)) (if_neg (fun q => q.2.1 (bI_t c10))).symm) hM hW ls hl
        · refine lv_aload_n hx hb dX6_cleans_36 rfl (lv_at hl 1 rfl) ?_
          refine kk_get hx hb hts hown hE hW hM.o rfl hiRX6 14 (by decide) (hts (.fieldLink RX6 42 "UndoCellarModel" "isEnded" "[Z") (by decide +kernel)) (fun _ h9 => h9) rfl dX6_cleans_37 ?_
          refine lv_iload_n hx hb dX6_cleans_40 rfl (lv_at hl 0 rfl) ?_
          refine kk_zald hx hb hE hW hM.a9 (vp_in_nI (by omega) (by omega)) dX6_cleans_41 ?_
          rw [nI_clamp (show k < 2 ^ 31 by omega)]
          refine lv_if_ne (tgt := 62) hx hb dX6_cleans_42 (by decide) (fun c11 => ?_) (fun c11 => ?_)
          · refine lv_iinc (v := nI (k + 1)) (lv' := [(2, .int (nI (k + 1))), (0, .ref (ad 2000)), (1, .int (nI b))]) hx hb dX6_cleans_62 hl (k := 0) rfl (nI_1 k) (by decide) rfl (fun ls hl => ?_)
            refine lv_goto (tgt := 4) hx hb dX6_cleans_65 (by decide) ?_
            exact ih (k + 1) T w1 _ _ (by omega) h8 (by rw [← he]; exact congrArg (cleanL d (k + 1)) (if_neg (fun q => c11 q.2.2)).symm) hM hW ls hl
          · refine lv_aload_n hx hb dX6_cleans_45 rfl (lv_at hl 1 rfl) ?_
            refine kk_get hx hb hts hown hE hW hM.o rfl hiRX6 14 (by decide) (hts (.fieldLink RX6 42 "UndoCellarModel" "isEnded" "[Z") (by decide +kernel)) (fun _ h9 => h9) rfl dX6_cleans_46 ?_
            refine lv_iload_n hx hb dX6_cleans_49 rfl (lv_at hl 0 rfl) ?_
            refine lv_iconst (v := 1) hx hb dX6_cleans_50 (by decide) ?_
            refine kk_zast hx hb hE hW hM.a9 (vp_in_nI (by omega) (by omega)) dX6_cleans_51 (fun H14 locs w12 e13 hW => ?_)
            rw [nI_clamp (show k < 2 ^ 31 by omega)] at e13
            rw [show vp_nar .boolean 1 = 1 from rfl] at e13
            have hM := hM.t9 e13
            refine lv_aload_n hx hb dX6_cleans_52 rfl (lv_at hl 1 rfl) ?_
            refine lv_dup hx hb dX6_cleans_53 rfl ?_
            refine kk_get hx hb hts hown hE hW (show w12 2000 = some (.inr (7, [.ref (ad 2001), .int (T 10 0), .int (T 11 0), .int (T 12 0), .ref (ad 2002), .ref (ad 2003), .ref (ad 2004), .int (T 13 0), .ref (ad 2005), .ref (ad 2006), .ref (ad 2007), .ref (ad 2008), .int (T 14 0), .ref (ad 2009), .ref (ad 2010), .int (T 15 0), .int (T 16 0), .int (T 17 0)])) from hM.o) rfl hiRX6 15 (by decide) (hts (.fieldLink RX6 71 "UndoCellarModel" "marks" "I") (by decide +kernel)) (fun _ h9 => h9) rfl dX6_cleans_54 ?_
            refine lv_iconst (v := 1) hx hb dX6_cleans_57 (by decide) ?_
            refine lv_iadd hx hb dX6_cleans_58 ?_
            refine kk_put hx hb hts hown hE hW (show w12 2000 = some (.inr (7, [.ref (ad 2001), .int (T 10 0), .int (T 11 0), .int (T 12 0), .ref (ad 2002), .ref (ad 2003), .ref (ad 2004), .int (T 13 0), .ref (ad 2005), .ref (ad 2006), .ref (ad 2007), .ref (ad 2008), .int (T 14 0), .ref (ad 2009), .ref (ad 2010), .int (T 15 0), .int (T 16 0), .int (T 17 0)])) from hM.o) rfl hiRX6 tyX6 tyX6_ok nmX6 15 (by decide) (hts (.fieldLink RX6 71 "UndoCellarModel" "marks" "I") (by decide +kernel)) (fun _ h9 => h9) rfl (ty := tyX6 15) (tyX6_ok 15 (by decide)) rfl rfl (Nat.le_of_ble_eq_true rfl) dX6_cleans_59 (fun H17 locs w15 e16 hW => ?_)
            have hM := hM.s15 e16
            refine lv_iinc (v := nI (k + 1)) (lv' := [(2, .int (nI (k + 1))), (0, .ref (ad 2000)), (1, .int (nI b))]) hx hb dX6_cleans_62 hl (k := 0) rfl (nI_1 k) (by decide) rfl (fun ls hl => ?_)
            refine lv_goto (tgt := 4) hx hb dX6_cleans_65 (by decide) ?_
            exact ih (k + 1) (sS (sA T 9 k 1) 15 (T 15 0 + 1)) _ _ _ (by omega) h8 (by rw [← he]; exact congrArg (cleanL d (k + 1)) (if_pos ⟨c1, bI_f c10, c11⟩).symm) hM hW ls hl
  refine lv_iconst (v := 2) hx hb dX6_cleans_0 (by decide) ?_
  refine lv_iload_n hx hb dX6_cleans_1 rfl (lv_at hl 1 rfl) ?_
  refine lv_imul hx hb dX6_cleans_2 ?_
  rw [nI_2]
  refine lv_istore_n (lv' := [(2, .int (nI (2 * b))), (0, .ref (ad 2000)), (1, .int (nI b))]) hx hb dX6_cleans_3 rfl hl (by decide) rfl (fun ls hl => ?_)
  exact loop 2 (2 * b) S w s.heap [] rfl rfl (cleanL_2 S b) hM hW ls hl

set_option maxHeartbeats 4000000 in
set_option maxRecDepth 100000 in
/-- c_undoes -/
theorem c_undoes (l : Launch) (D : va_G) (A : Nat → Prop) (ad : Nat → Nat) (w : kWd) (S : St) (hM : MW D S ad w w) (t z : Int32) (nC : Nat) (hC : S 13 0 = nI nC) (hn : nC ≤ 2000) (hro : ∀ k, k < nC → vp_in (S 5 k) 12) : Met l yX6_undoes wsX6_undoes ({ frames := 0, cells := 0, slots := 0, locals := 0 }) (kPc D A [.ref (ad 2000), .int t, .int z] ad w) (kQv D A (fun ad' w' => ad' = ad ∧ MW D (unS S t z) ad w w')) 0 0 A := by
  refine Met.ofW (cc := cX6_undoes) (maxL := 5) (ret := none) (by decide) rfl ?_
  intro p e s m args below meth c s₁ B hml hv
  obtain ⟨rfl, hE, hW0, hI0, hA⟩ := hv
  have hx := B.exec
  have hb := B.bytes
  have hr := B.returns
  have hts := atoms_spec (ws := wsX6_undoes) B.pre
  have hown : s.vm.findClass RX6 = some m.cls := findClass_of_methodNamed B.named
  have hlocks := B.notSynchronized
  have hiRX6 : ∀ w ∈ wsX60, w ∈ wsX6_undoes := by decide +kernel
  have hW : kS D A s.heap ad w s.heap [] := ⟨hW0, hI0, va_S.rf, hA⟩
  have hl := lv_entry ([.ref (ad 2000), .int t, .int z]) (n := 5) (Nat.le_of_ble_eq_true rfl)
  rw [lg_entry_eq]
  generalize (lg_sl ([.ref (ad 2000), .int t, .int z]) ++ List.replicate (5 - (lg_sl ([.ref (ad 2000), .int t, .int z])).length) Slot.unset).toArray = ls at hl ⊢
  have hl : lv_has ls 5 [(0, .ref (ad 2000)), (1, .int t), (2, .int z)] := hl
  have hnv : nv (S 13 0) = nC := by rw [hC]; exact nI_clamp (by omega)
  have loop : ∀ (n : Nat) (y : Int32) (T : St) (w1 : kWd) (H : Heap) (locs : List Loc), n ≤ nC → T 5 = S 5 → unL t n y T = unS S t z → MW D T ad w w1 → kS D A s.heap ad w1 H locs → ∀ ls, lv_has ls 5 [(4, .int (nI n - 1)), (3, .int y), (0, .ref (ad 2000)), (1, .int t), (2, .int z)] → W p l e ({ frames := 0, cells := 0, slots := 0, locals := 0 }) s m ([.ref (ad 2000), .int t, .int z] : List Value).toArray below meth c H locs 0 0 (MQ below (kQv D A (fun ad' w' => ad' = ad ∧ MW D (unS S t z) ad w w')) ([.ref (ad 2000), .int t, .int z] : List Value).toArray s 0 0 A) (F0 m 10 ls []) := by
    intro n
    induction n with
    | zero =>
      intro y T w1 H locs hn9 h5 he hM hW ls hl
      refine lv_iload hx hb dX6_undoes_10 (lv_at hl 0 rfl) ?_
      refine lv_if_lt (tgt := 76) hx hb dX6_undoes_12 (by decide) (fun _ => ?_) (fun c9 => absurd (nI_m1) c9)
      exact ke_v hx hb hr hlocks (Nat.le_of_ble_eq_true rfl) (Nat.le_of_ble_eq_true rfl) dX6_undoes_76 hW (⟨rfl, by rw [← he]; exact hM⟩)
    | succ n ih =>
      intro y T w1 H locs hn9 h5 he hM hW ls hl
      rw [nI_dn] at hl
      refine lv_iload hx hb dX6_undoes_10 (lv_at hl 0 rfl) ?_
      refine lv_if_lt (tgt := 76) hx hb dX6_undoes_12 (by decide) (fun c9 => absurd c9 (nI_pos (by omega))) (fun _ => ?_)
      refine lv_iload_n hx hb dX6_undoes_15 rfl (lv_at hl 1 rfl) ?_
      refine lv_if_le (tgt := 76) hx hb dX6_undoes_16 (by decide) (fun c1 => ?_) (fun c1 => ?_)
      · exact ke_v hx hb hr hlocks (Nat.le_of_ble_eq_true rfl) (Nat.le_of_ble_eq_true rfl) dX6_undoes_76 hW (⟨rfl, by rw [← he, show unL t (n + 1) y T = T from if_neg (Int32.not_lt.mpr c1)]; exact hM⟩)
      · have hy : 0 < y := Int32.not_le.mp c1
        refine lv_aload_n hx hb dX6_undoes_19 rfl (lv_at hl 2 rfl) ?_
        refine kk_get hx hb hts hown hE hW hM.o rfl hiRX6 8 (by decide) (hts (.fieldLink RX6 26 "UndoCellarModel" "by" "[I") (by decide +kernel)) (fun _ h9 => h9) rfl dX6_undoes_20 ?_
        refine lv_iload hx hb dX6_undoes_23 (lv_at hl 0 rfl) ?_
        refine kk_iald hx hb hE hW hM.a4 (vp_in_nI (by omega) (by omega)) dX6_undoes_25 ?_
        rw [nI_clamp (show n < 2 ^ 31 by omega)]
        refine lv_iload_n hx hb dX6_undoes_26 rfl (lv_at hl 3 rfl) ?_
        refine lv_icmp_ne (tgt := 70) hx hb dX6_undoes_27 (by decide) (fun c2 => ?_) (fun c2 => ?_)
        · refine lv_iinc (v := nI n - 1) (lv' := [(4, .int (nI n - 1)), (3, .int y), (0, .ref (ad 2000)), (1, .int t), (2, .int z)]) hx hb dX6_undoes_70 hl (k := 0) rfl (i_sub1 _) (by decide) rfl (fun ls hl => ?_)
          refine lv_goto (tgt := 10) hx hb dX6_undoes_73 (by decide) ?_
          exact ih y T w1 _ _ (by omega) h5 (by rw [← he]; exact ((if_pos hy).trans (if_neg (fun q => c2 q.1))).symm) hM hW ls hl
        · refine lv_aload_n hx hb dX6_undoes_30 rfl (lv_at hl 2 rfl) ?_
          refine kk_get hx hb hts hown hE hW hM.o rfl hiRX6 11 (by decide) (hts (.fieldLink RX6 35 "UndoCellarModel" "isVoid" "[Z") (by decide +kernel)) (fun _ h9 => h9) rfl dX6_undoes_31 ?_
          refine lv_iload hx hb dX6_undoes_34 (lv_at hl 0 rfl) ?_
          refine kk_zald hx hb hE hW hM.a7 (vp_in_nI (by omega) (by omega)) dX6_undoes_36 ?_
          rw [nI_clamp (show n < 2 ^ 31 by omega)]
          refine lv_if_ne (tgt := 70) hx hb dX6_undoes_37 (by decide) (fun c3 => ?_) (fun c3 => ?_)
          · refine lv_iinc (v := nI n - 1) (lv' := [(4, .int (nI n - 1)), (3, .int y), (0, .ref (ad 2000)), (1, .int t), (2, .int z)]) hx hb dX6_undoes_70 hl (k := 0) rfl (i_sub1 _) (by decide) rfl (fun ls hl => ?_)
            refine lv_goto (tgt := 10) hx hb dX6_undoes_73 (by decide) ?_
            exact ih y T w1 _ _ (by omega) h5 (by rw [← he]; exact ((if_pos hy).trans (if_neg (fun q => c3 q.2))).symm) hM hW ls hl
          · refine lv_aload_n hx hb dX6_undoes_40 rfl (lv_at hl 2 rfl) ?_
            refine kk_get hx hb hts hown hE hW hM.o rfl hiRX6 11 (by decide) (hts (.fieldLink RX6 35 "UndoCellarModel" "isVoid" "[Z") (by decide +kernel)) (fun _ h9 => h9) rfl dX6_undoes_41 ?_
            refine lv_iload hx hb dX6_undoes_44 (lv_at hl 0 rfl) ?_
            refine lv_iconst (v := 1) hx hb dX6_undoes_46 (by decide) ?_
            refine kk_zast hx hb hE hW hM.a7 (vp_in_nI (by omega) (by omega)) dX6_undoes_47 (fun H6 locs w4 e5 hW => ?_)
            rw [nI_clamp (show n < 2 ^ 31 by omega)] at e5
            rw [show vp_nar .boolean 1 = 1 from rfl] at e5
            have hM := hM.t7 e5
            refine lv_aload_n hx hb dX6_undoes_48 rfl (lv_at hl 2 rfl) ?_
            refine kk_get hx hb hts hown hE hW (show w4 2000 = some (.inr (7, [.ref (ad 2001), .int (T 10 0), .int (T 11 0), .int (T 12 0), .ref (ad 2002), .ref (ad 2003), .ref (ad 2004), .int (T 13 0), .ref (ad 2005), .ref (ad 2006), .ref (ad 2007), .ref (ad 2008), .int (T 14 0), .ref (ad 2009), .ref (ad 2010), .int (T 15 0), .int (T 16 0), .int (T 17 0)])) from hM.o) rfl hiRX6 0 (by decide) (hts (.fieldLink RX6 7 "UndoCellarModel" "value" "[I") (by decide +kernel)) (fun _ h9 => h9) rfl dX6_undoes_49 ?_
            refine lv_aload_n hx hb dX6_undoes_52 rfl (lv_at hl 2 rfl) ?_
            refine kk_get hx hb hts hown hE hW (show w4 2000 = some (.inr (7, [.ref (ad 2001), .int (T 10 0), .int (T 11 0), .int (T 12 0), .ref (ad 2002), .ref (ad 2003), .ref (ad 2004), .int (T 13 0), .ref (ad 2005), .ref (ad 2006), .ref (ad 2007), .ref (ad 2008), .int (T 14 0), .ref (ad 2009), .ref (ad 2010), .int (T 15 0), .int (T 16 0), .int (T 17 0)])) from hM.o) rfl hiRX6 9 (by decide) (hts (.fieldLink RX6 29 "UndoCellarModel" "row" "[I") (by decide +kernel)) (fun _ h9 => h9) rfl dX6_undoes_53 ?_
            refine lv_iload hx hb dX6_undoes_56 (lv_at hl 0 rfl) ?_
            refine kk_iald hx hb hE hW (show w4 2006 = some (.inl (D.1 100, 2000, .inl (T 5))) from hM.a5) (vp_in_nI (by omega) (by omega)) dX6_undoes_58 ?_
            rw [nI_clamp (show n < 2 ^ 31 by omega)]
            refine lv_aload_n hx hb dX6_undoes_59 rfl (lv_at hl 2 rfl) ?_
            refine kk_get hx hb hts hown hE hW (show w4 2000 = some (.inr (7, [.ref (ad 2001), .int (T 10 0), .int (T 11 0), .int (T 12 0), .ref (ad 2002), .ref (ad 2003), .ref (ad 2004), .int (T 13 0), .ref (ad 2005), .ref (ad 2006), .ref (ad 2007), .ref (ad 2008), .int (T 14 0), .ref (ad 2009), .ref (ad 2010), .int (T 15 0), .int (T 16 0), .int (T 17 0)])) from hM.o) rfl hiRX6 10 (by decide) (hts (.fieldLink RX6 32 "UndoCellarModel" "ahead" "[I") (by decide +kernel)) (fun _ h9 => h9) rfl dX6_undoes_60 ?_
            refine lv_iload hx hb dX6_undoes_63 (lv_at hl 0 rfl) ?_
            refine kk_iald hx hb hE hW (show w4 2007 = some (.inl (D.1 100, 2000, .inl (T 6))) from hM.a6) (vp_in_nI (by omega) (by omega)) dX6_undoes_65 ?_
            rw [nI_clamp (show n < 2 ^ 31 by omega)]
            refine kk_iast hx hb hE hW (show w4 2001 = some (.inl (D.1 100, 12, .inl (T 0))) from hM.a0) (by rw [h5]; exact hro n (by omega)) dX6_undoes_66 (fun H9 locs w7 e8 hW => ?_)
            have hM := hM.t0 e8
            refine lv_iinc (v := y - 1) (lv' := [(3, .int (y - 1)), (4, .int (nI n)), (0, .ref (ad 2000)), (1, .int t), (2, .int z)]) hx hb dX6_undoes_67 hl (k := 1) rfl (i_sub1 _) (by decide) rfl (fun ls hl => ?_)
            refine lv_iinc (v := nI n - 1) (lv' := [(4, .int (nI n - 1)), (3, .int (y - 1)), (0, .ref (ad 2000)), (1, .int t), (2, .int z)]) hx hb dX6_undoes_70 hl (k := 1) rfl (i_sub1 _) (by decide) rfl (fun ls hl => ?_)
            refine lv_goto (tgt := 10) hx hb dX6_undoes_73 (by decide) ?_
            exact ih (y - 1) (sA (sA T 7 n 1) 0 (nv (T 5 n)) (T 6 n)) _ _ _ (by omega) h5 (by rw [← he]; exact ((if_pos hy).trans (if_pos ⟨c2, c3⟩)).symm) hM hW ls hl
  refine lv_iload_n hx hb dX6_undoes_0 rfl (lv_at hl 2 rfl) ?_
  refine lv_istore_n (lv' := [(3, .int z), (0, .ref (ad 2000)), (1, .int t), (2, .int z)]) hx hb dX6_undoes_1 rfl hl (by decide) rfl (fun ls hl => ?_)
  refine lv_aload_n hx hb dX6_undoes_2 rfl (lv_at hl 1 rfl) ?_
  refine kk_get hx hb hts hown hE hW hM.o rfl hiRX6 7 (by decide) (hts (.fieldLink RX6 55 "UndoCellarModel" "changes" "I") (by decide +kernel)) (fun _ h9 => h9) rfl dX6_undoes_3 ?_
  refine lv_iconst (v := 1) hx hb dX6_undoes_6 (by decide) ?_
  refine lv_isub hx hb dX6_undoes_7 ?_
  refine lv_istore (lv' := [(4, .int ((S 13 0) - 1)), (3, .int z), (0, .ref (ad 2000)), (1, .int t), (2, .int z)]) hx hb dX6_undoes_8 hl (by decide) rfl (fun ls hl => ?_)
  exact loop nC z S w s.heap [] (Nat.le_refl _) rfl (by unfold unS; rw [hnv]) hM hW ls (by rw [hC] at hl; exact hl)

