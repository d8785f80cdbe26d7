/-! the reference: write, and its constructor -/
set_option maxHeartbeats 4000000 in
set_option maxRecDepth 100000 in
/-- c_write -/
theorem c_write (l : Launch) (D : va_G) (A : Nat → Prop) (ad : Nat → Nat) (w : kWd) (S : St) (hM : MW D S ad w w) (t r x : Int32) (nT : Nat) (hT : S 12 0 = nI nT) (hT6 : nT ≤ 60) (nC : Nat) (hC : S 13 0 = nI nC) (hn : nC ≤ 2000) (hn9 : nC < 600) (hby : ∀ k, k < nC → vp_in (S 4 k) 60) (hsl : ∀ k, k < 6 → S 8 k ≠ -1 → vp_in (S 8 k) 60) (nD : Nat) (hD : S 14 0 = nI nD) (hd : nD ≤ nC) (nZ : Nat) (hZ : S 10 0 = nI nZ) (hz1 : 1 ≤ nZ) (hz30 : nZ ≤ 30)  : Met l yX6_write wsX6_write ({ frames := 2, cells := 0, slots := 0, locals := 46 }) (kPc D A [.ref (ad 2000), .int t, .int r, .int x] ad w) (kQi D A (fun v ad' w' => v = wrR S t r x ∧ ad' = ad ∧ MW D (wrN S t r x) ad w w')) 0 0 A := by
  refine Met.ofW (cc := cX6_write) (maxL := 10) (ret := (some (.int))) (by decide) rfl ?_
  intro p e s m args below meth c s₁ B hml hv
  obtain ⟨rfl, hE, hW0, hI0, hA⟩ := hv
  have hx := B.exec
  have hb := B.bytes
  have hr := B.returns
  have hts := atoms_spec (ws := wsX6_write) B.pre
  have hown : s.vm.findClass RX6 = some m.cls := findClass_of_methodNamed B.named
  have hlocks := B.notSynchronized
  have hiRX6 : ∀ w ∈ wsX60, w ∈ wsX6_write := by decide +kernel
  have hW : kS D A s.heap ad w s.heap [] := ⟨hW0, hI0, va_S.rf, hA⟩
  have hl := lv_entry ([.ref (ad 2000), .int t, .int r, .int x]) (n := 10) (Nat.le_of_ble_eq_true rfl)
  rw [lg_entry_eq]
  generalize (lg_sl ([.ref (ad 2000), .int t, .int r, .int x]) ++ List.replicate (10 - (lg_sl ([.ref (ad 2000), .int t, .int r, .int x])).length) Slot.unset).toArray = ls at hl ⊢
  have hl : lv_has ls 10 [(0, .ref (ad 2000)), (1, .int t), (2, .int r), (3, .int x)] := hl
  refine lv_aload_n hx hb dX6_write_0 rfl (lv_at hl 0 rfl) ?_
  refine lv_iload_n hx hb dX6_write_1 rfl (lv_at hl 1 rfl) ?_
  refine W_joinH (D := D) (A := A) (w := w) (ad := ad) (P := fun v => v = bI (trP S t ∧ roP r)) (pj := 20) (rj := []) (lj := ls) (fun v H1 locs hv hW => ?_) (fun J20 => ?_)
  · subst hv
    refine lv_istore (lv' := [(4, .int (bI (trP S t ∧ roP r))), (0, .ref (ad 2000)), (1, .int t), (2, .int r), (3, .int x)]) hx hb dX6_write_20 hl (by decide) rfl (fun ls hl => ?_)
    refine lv_iload_n hx hb dX6_write_22 rfl (lv_at hl 4 rfl) ?_
    refine lv_ldc (v := (-1000000)) hx hb hown (hts (.constant RX6 80 ((-1000000))) (by decide +kernel)) dX6_write_23 ?_
    refine lv_ldc (v := 1000000) hx hb hown (hts (.constant RX6 81 (1000000)) (by decide +kernel)) dX6_write_25 ?_
    refine kk_i (va_runS (As := [.int x, .int (-1000000), .int 1000000]) (rest := []) ⟨hx, hb, hml, hown, hts⟩ (c_isIn l D A ad w x (-1000000) 1000000) (va_cwS 3 hts gX6_write_X6_isIn rfl rfl rfl (by decide +kernel) ⟨Nat.le_of_ble_eq_true rfl, Nat.le_of_ble_eq_true rfl⟩) (kSt hE hW _) rfl rfl hl.1 rfl (lv_room (Nat.le_of_ble_eq_true rfl)) dX6_write_27 ⟨Nat.le_of_ble_eq_true rfl, Nat.le_of_ble_eq_true rfl⟩) hW (fun r5 ad2 w3 H6 locs hp4 hW => ?_)
    obtain ⟨e7, e8, e9⟩ := hp4
    rw [e8, e9] at hW
    subst e7
    refine lv_istore (lv' := [(5, .int (bI (goodP x))), (4, .int (bI (trP S t ∧ roP r))), (0, .ref (ad 2000)), (1, .int t), (2, .int r), (3, .int x)]) hx hb dX6_write_30 hl (by decide) rfl (fun ls hl => ?_)
    refine W_joinH (D := D) (A := A) (w := w) (ad := ad) (P := fun v => v = bI (canP S t r x)) (pj := 55) (rj := []) (lj := ls) (fun v H10 locs hv hW => ?_) (fun J55 => ?_)
    · subst hv
      refine lv_istore (lv' := [(6, .int (bI (canP S t r x))), (5, .int (bI (goodP x))), (4, .int (bI (trP S t ∧ roP r))), (0, .ref (ad 2000)), (1, .int t), (2, .int r), (3, .int x)]) hx hb dX6_write_55 hl (by decide) rfl (fun ls hl => ?_)
      refine W_joinH (D := D) (A := A) (w := w) (ad := ad) (P := fun v => v = (if canP S t r x then lockV S r else -1)) (pj := 71) (rj := []) (lj := ls) (fun v H11 locs hv hW => ?_) (fun J71 => ?_)
      · subst hv
        refine lv_istore (lv' := [(7, .int ((if canP S t r x then lockV S r else -1))), (6, .int (bI (canP S t r x))), (5, .int (bI (goodP x))), (4, .int (bI (trP S t ∧ roP r))), (0, .ref (ad 2000)), (1, .int t), (2, .int r), (3, .int x)]) hx hb dX6_write_71 hl (by decide) rfl (fun ls hl => ?_)
        refine W_joinH (D := D) (A := A) (w := w) (ad := ad) (P := fun v => v = bI (wrP S t r x)) (pj := 114) (rj := []) (lj := ls) (fun v H12 locs hv hW => ?_) (fun J114 => ?_)
        · subst hv
          refine lv_istore (lv' := [(6, .int (bI (wrP S t r x))), (7, .int ((if canP S t r x then lockV S r else -1))), (5, .int (bI (goodP x))), (4, .int (bI (trP S t ∧ roP r))), (0, .ref (ad 2000)), (1, .int t), (2, .int r), (3, .int x)]) hx hb dX6_write_114 hl (by decide) rfl (fun ls hl => ?_)
          refine lv_aload_n hx hb dX6_write_116 rfl (lv_at hl 4 rfl) ?_
          refine W_joinH (D := D) (A := A) (w := w) (ad := ad) (P := fun v => v = (wrK S t r x)) (pj := 145) (rj := [.ref (ad 2000)]) (lj := ls) (fun v H13 locs hv hW => ?_) (fun J145 => ?_)
          · subst hv
            refine kk_i (va_runV (As := [.int ((wrK S t r x))]) (rest := []) ⟨hx, hb, hml, hown, hts⟩ (c_can l D A ad w (S) hM.re (wrK S t r x)) (cwV 1 hts gX6_write_X6_can rfl rfl rfl (by decide +kernel) ⟨Nat.le_of_ble_eq_true rfl, Nat.le_of_ble_eq_true rfl⟩) (kV hE hW hM.o rfl _) rfl rfl hl.1 rfl (lv_room (Nat.le_of_ble_eq_true rfl)) dX6_write_145 ⟨Nat.le_of_ble_eq_true rfl, Nat.le_of_ble_eq_true rfl⟩) hW (fun r17 ad14 w15 H18 locs hp16 hW => ?_)
            obtain ⟨e19, e20, e21⟩ := hp16
            rw [e20] at hW
            have hM := hM.tr e21
            subst e19
            refine lv_if_ne (tgt := 153) hx hb dX6_write_148 (by decide) (fun c22 => ?_) (fun c22 => ?_)
            · have ho := bI_t c22
              have hth : trP S t ∧ roP r := by
                refine Decidable.byContradiction fun q => ?_
                rw [wrK_1 q] at ho
                exact absurd ho (by decide)
              have hg : goodP x := by
                refine Decidable.byContradiction fun q => ?_
                rw [wrK_2 hth q] at ho
                exact absurd ho (by decide)
              have hwp : wrP S t r x := by
                refine Decidable.byContradiction fun q => ?_
                rw [wrK_3 hth hg q] at ho
                exact absurd ho (by decide)
              obtain ⟨j9, hj9, ej9⟩ := inP_N (n := 11) (by decide) hth.2
              have hnv9 : nv r = j9 := by rw [ej9]; exact nv_nI (by omega)
              have hdv : r / 4 = nI (nv r / 4) := by
                rw [hnv9, ej9]
                exact pk_div (d := 4) (by omega) (by decide) (by decide)
              have hb3 : nv r / 4 < 3 := by omega
              have hv12 : vp_in r 12 := by rw [ej9]; exact vp_in_nI (by omega) (by decide)
              obtain ⟨q, hq6, hq⟩ := (slF_of S t (nv r / 4) hb3).resolve_left hwp.2.2.1
              have hqv : vp_in (slF S t (nv r / 4)) 6 := by rw [hq]; exact vp_in_nI hq6 (by decide)
              have hc20 : vp_in (S 13 0) 2000 := by rw [hC]; exact vp_in_nI (by omega) (by decide)
              refine lv_aload_n hx hb dX6_write_153 rfl (lv_at hl 4 rfl) ?_
              refine kk_get hx hb hts hown hE hW hM.o rfl hiRX6 0 (by decide) (hts (.fieldLink RX6 7 "UndoCellarModel" "value" "[I") (by decide +kernel)) (fun _ h9 => h9) rfl dX6_write_154 ?_
              refine lv_iload_n hx hb dX6_write_157 rfl (lv_at hl 6 rfl) ?_
              refine kk_iald hx hb hE hW hM.a0 hv12 dX6_write_158 ?_
              refine lv_istore (lv' := [(8, .int ((sS S 17 (wrK S t r x)) 0 (nv r))), (6, .int (bI (wrP S t r x))), (7, .int ((if canP S t r x then lockV S r else -1))), (5, .int (bI (goodP x))), (4, .int (bI (trP S t ∧ roP r))), (0, .ref (ad 2000)), (1, .int t), (2, .int r), (3, .int x)]) hx hb dX6_write_159 hl (by decide) rfl (fun ls hl => ?_)
              refine lv_aload_n hx hb dX6_write_161 rfl (lv_at hl 5 rfl) ?_
              refine lv_iload_n hx hb dX6_write_162 rfl (lv_at hl 6 rfl) ?_
              refine lv_iload_n hx hb dX6_write_163 rfl (lv_at hl 7 rfl) ?_
              refine lv_iconst (v := 4) hx hb dX6_write_164 (by decide) ?_
              refine lv_idiv hx hb dX6_write_165 (by decide) ?_
              rw [hdv]
              refine kk_i (va_runV (As := [.int t, .int (nI (nv r / 4))]) (rest := []) ⟨hx, hb, hml, hown, hts⟩ (c_slotFor l D A ad w15 ((sS S 17 (wrK S t r x))) hM.re t (nv r / 4) hb3 hsl) (cwV 2 hts gX6_write_X6_slotFor rfl rfl rfl (by decide +kernel) ⟨Nat.le_of_ble_eq_true rfl, Nat.le_of_ble_eq_true rfl⟩) (kV hE hW hM.o rfl _) rfl rfl hl.1 rfl (lv_room (Nat.le_of_ble_eq_true rfl)) dX6_write_166 ⟨Nat.le_of_ble_eq_true rfl, Nat.le_of_ble_eq_true rfl⟩) hW (fun r26 ad23 w24 H27 locs hp25 hW => ?_)
              obtain ⟨e28, e29, e30⟩ := hp25
              rw [e29, e30] at hW
              subst e28
              refine lv_istore (lv' := [(9, .int (slF (sS S 17 (wrK S t r x)) t (nv r / 4))), (8, .int ((sS S 17 (wrK S t r x)) 0 (nv r))), (6, .int (bI (wrP S t r x))), (7, .int ((if canP S t r x then lockV S r else -1))), (5, .int (bI (goodP x))), (4, .int (bI (trP S t ∧ roP r))), (0, .ref (ad 2000)), (1, .int t), (2, .int r), (3, .int x)]) hx hb dX6_write_169 hl (by decide) rfl (fun ls hl => ?_)
              refine lv_aload_n hx hb dX6_write_171 rfl (lv_at hl 6 rfl) ?_
              refine lv_iload_n hx hb dX6_write_172 rfl (lv_at hl 8 rfl) ?_
              refine lv_iconst (v := 4) hx hb dX6_write_173 (by decide) ?_
              refine lv_idiv hx hb dX6_write_174 (by decide) ?_
              rw [hdv]
              refine kk_v (va_runV (As := [.int (nI (nv r / 4))]) (rest := []) ⟨hx, hb, hml, hown, hts⟩ (c_cleans l D A ad w15 ((sS S 17 (wrK S t r x))) hM.re (nv r / 4) hb3 hsl) (cwV 1 hts gX6_write_X6_cleans rfl rfl rfl (by decide +kernel) ⟨Nat.le_of_ble_eq_true rfl, Nat.le_of_ble_eq_true rfl⟩) (kV hE hW hM.o rfl _) rfl rfl hl.1 rfl (lv_room (Nat.le_of_ble_eq_true rfl)) dX6_write_175 ⟨Nat.le_of_ble_eq_true rfl, Nat.le_of_ble_eq_true rfl⟩) hW (fun ad31 w32 H35 locs hp33 hW => ?_)
              obtain ⟨e37, e38⟩ := hp33
              rw [e37] at hW
              have hM := hM.tr e38
              have n14 : (cleanS (sS S 17 (wrK S t r x)) (nv r / 4)) 14 0 = S 14 0 := congrFun (cleanS_n _ _ (by decide) (by decide)) 0
              have n13 : (cleanS (sS S 17 (wrK S t r x)) (nv r / 4)) 13 0 = S 13 0 := congrFun (cleanS_n _ _ (by decide) (by decide)) 0
              have n10 : (cleanS (sS S 17 (wrK S t r x)) (nv r / 4)) 10 0 = S 10 0 := congrFun (cleanS_n _ _ (by decide) (by decide)) 0
              refine lv_aload_n hx hb dX6_write_178 rfl (lv_at hl 6 rfl) ?_
              refine kk_get hx hb hts hown hE hW hM.o rfl hiRX6 13 (by decide) (hts (.fieldLink RX6 39 "UndoCellarModel" "slot" "[I") (by decide +kernel)) (fun _ h9 => h9) rfl dX6_write_179 ?_
              refine lv_iload hx hb dX6_write_182 (lv_at hl 0 rfl) ?_
              refine lv_iload_n hx hb dX6_write_184 rfl (lv_at hl 7 rfl) ?_
              refine kk_iast hx hb hE hW hM.a8 hqv dX6_write_185 (fun H41 locs w39 e40 hW => ?_)
              have hM := hM.t8 e40
              refine lv_aload_n hx hb dX6_write_186 rfl (lv_at hl 6 rfl) ?_
              refine kk_get hx hb hts hown hE hW (show w39 2000 = some (.inr (7, [.ref (ad 2001), .int ((cleanS (sS S 17 (wrK S t r x)) (nv r / 4)) 10 0), .int ((cleanS (sS S 17 (wrK S t r x)) (nv r / 4)) 11 0), .int ((cleanS (sS S 17 (wrK S t r x)) (nv r / 4)) 12 0), .ref (ad 2002), .ref (ad 2003), .ref (ad 2004), .int ((cleanS (sS S 17 (wrK S t r x)) (nv r / 4)) 13 0), .ref (ad 2005), .ref (ad 2006), .ref (ad 2007), .ref (ad 2008), .int ((cleanS (sS S 17 (wrK S t r x)) (nv r / 4)) 14 0), .ref (ad 2009), .ref (ad 2010), .int ((cleanS (sS S 17 (wrK S t r x)) (nv r / 4)) 15 0), .int ((cleanS (sS S 17 (wrK S t r x)) (nv r / 4)) 16 0), .int ((cleanS (sS S 17 (wrK S t r x)) (nv r / 4)) 17 0)])) from hM.o) rfl hiRX6 14 (by decide) (hts (.fieldLink RX6 42 "UndoCellarModel" "isEnded" "[Z") (by decide +kernel)) (fun _ h9 => h9) rfl dX6_write_187 ?_
              refine lv_iload hx hb dX6_write_190 (lv_at hl 0 rfl) ?_
              refine lv_iconst (v := 0) hx hb dX6_write_192 (by decide) ?_
              refine kk_zast hx hb hE hW (show w39 2010 = some (.inl (D.1 101, 6, .inl ((cleanS (sS S 17 (wrK S t r x)) (nv r / 4)) 9))) from hM.a9) hqv dX6_write_193 (fun H44 locs w42 e43 hW => ?_)
              rw [show vp_nar .boolean 0 = 0 from rfl] at e43
              have hM := hM.t9 e43
              refine lv_aload_n hx hb dX6_write_194 rfl (lv_at hl 6 rfl) ?_
              refine lv_dup hx hb dX6_write_195 rfl ?_
              refine kk_get hx hb hts hown hE hW (show w42 2000 = some (.inr (7, [.ref (ad 2001), .int ((cleanS (sS S 17 (wrK S t r x)) (nv r / 4)) 10 0), .int ((cleanS (sS S 17 (wrK S t r x)) (nv r / 4)) 11 0), .int ((cleanS (sS S 17 (wrK S t r x)) (nv r / 4)) 12 0), .ref (ad 2002), .ref (ad 2003), .ref (ad 2004), .int ((cleanS (sS S 17 (wrK S t r x)) (nv r / 4)) 13 0), .ref (ad 2005), .ref (ad 2006), .ref (ad 2007), .ref (ad 2008), .int ((cleanS (sS S 17 (wrK S t r x)) (nv r / 4)) 14 0), .ref (ad 2009), .ref (ad 2010), .int ((cleanS (sS S 17 (wrK S t r x)) (nv r / 4)) 15 0), .int ((cleanS (sS S 17 (wrK S t r x)) (nv r / 4)) 16 0), .int ((cleanS (sS S 17 (wrK S t r x)) (nv r / 4)) 17 0)])) from hM.o) rfl hiRX6 12 (by decide) (hts (.fieldLink RX6 58 "UndoCellarModel" "dropped" "I") (by decide +kernel)) (fun _ h9 => h9) rfl dX6_write_196 ?_
              rw [n14]
              refine lv_aload_n hx hb dX6_write_199 rfl (lv_at hl 6 rfl) ?_
              refine kk_get hx hb hts hown hE hW (show w42 2000 = some (.inr (7, [.ref (ad 2001), .int ((cleanS (sS S 17 (wrK S t r x)) (nv r / 4)) 10 0), .int ((cleanS (sS S 17 (wrK S t r x)) (nv r / 4)) 11 0), .int ((cleanS (sS S 17 (wrK S t r x)) (nv r / 4)) 12 0), .ref (ad 2002), .ref (ad 2003), .ref (ad 2004), .int ((cleanS (sS S 17 (wrK S t r x)) (nv r / 4)) 13 0), .ref (ad 2005), .ref (ad 2006), .ref (ad 2007), .ref (ad 2008), .int ((cleanS (sS S 17 (wrK S t r x)) (nv r / 4)) 14 0), .ref (ad 2009), .ref (ad 2010), .int ((cleanS (sS S 17 (wrK S t r x)) (nv r / 4)) 15 0), .int ((cleanS (sS S 17 (wrK S t r x)) (nv r / 4)) 16 0), .int ((cleanS (sS S 17 (wrK S t r x)) (nv r / 4)) 17 0)])) from hM.o) rfl hiRX6 7 (by decide) (hts (.fieldLink RX6 55 "UndoCellarModel" "changes" "I") (by decide +kernel)) (fun _ h9 => h9) rfl dX6_write_200 ?_
              rw [n13]
              refine lv_aload_n hx hb dX6_write_203 rfl (lv_at hl 6 rfl) ?_
              refine kk_get hx hb hts hown hE hW (show w42 2000 = some (.inr (7, [.ref (ad 2001), .int ((cleanS (sS S 17 (wrK S t r x)) (nv r / 4)) 10 0), .int ((cleanS (sS S 17 (wrK S t r x)) (nv r / 4)) 11 0), .int ((cleanS (sS S 17 (wrK S t r x)) (nv r / 4)) 12 0), .ref (ad 2002), .ref (ad 2003), .ref (ad 2004), .int ((cleanS (sS S 17 (wrK S t r x)) (nv r / 4)) 13 0), .ref (ad 2005), .ref (ad 2006), .ref (ad 2007), .ref (ad 2008), .int ((cleanS (sS S 17 (wrK S t r x)) (nv r / 4)) 14 0), .ref (ad 2009), .ref (ad 2010), .int ((cleanS (sS S 17 (wrK S t r x)) (nv r / 4)) 15 0), .int ((cleanS (sS S 17 (wrK S t r x)) (nv r / 4)) 16 0), .int ((cleanS (sS S 17 (wrK S t r x)) (nv r / 4)) 17 0)])) from hM.o) rfl hiRX6 12 (by decide) (hts (.fieldLink RX6 58 "UndoCellarModel" "dropped" "I") (by decide +kernel)) (fun _ h9 => h9) rfl dX6_write_204 ?_
              rw [n14]
              refine lv_isub hx hb dX6_write_207 ?_
              refine lv_aload_n hx hb dX6_write_208 rfl (lv_at hl 6 rfl) ?_
              refine kk_get hx hb hts hown hE hW (show w42 2000 = some (.inr (7, [.ref (ad 2001), .int ((cleanS (sS S 17 (wrK S t r x)) (nv r / 4)) 10 0), .int ((cleanS (sS S 17 (wrK S t r x)) (nv r / 4)) 11 0), .int ((cleanS (sS S 17 (wrK S t r x)) (nv r / 4)) 12 0), .ref (ad 2002), .ref (ad 2003), .ref (ad 2004), .int ((cleanS (sS S 17 (wrK S t r x)) (nv r / 4)) 13 0), .ref (ad 2005), .ref (ad 2006), .ref (ad 2007), .ref (ad 2008), .int ((cleanS (sS S 17 (wrK S t r x)) (nv r / 4)) 14 0), .ref (ad 2009), .ref (ad 2010), .int ((cleanS (sS S 17 (wrK S t r x)) (nv r / 4)) 15 0), .int ((cleanS (sS S 17 (wrK S t r x)) (nv r / 4)) 16 0), .int ((cleanS (sS S 17 (wrK S t r x)) (nv r / 4)) 17 0)])) from hM.o) rfl hiRX6 1 (by decide) (hts (.fieldLink RX6 13 "UndoCellarModel" "size" "I") (by decide +kernel)) (fun _ h9 => h9) rfl dX6_write_209 ?_
              rw [n10]
              refine W_join (P := fun v => v = bI (S 13 0 - S 14 0 = S 10 0)) (pj := 220) (rj := [.int (S 14 0), .ref (ad 2000)]) (lj := ls) (fun v hv => ?_) (fun J220 => ?_)
              · subst hv
                refine lv_iadd hx hb dX6_write_220 ?_
                refine kk_put hx hb hts hown hE hW (show w42 2000 = some (.inr (7, [.ref (ad 2001), .int ((cleanS (sS S 17 (wrK S t r x)) (nv r / 4)) 10 0), .int ((cleanS (sS S 17 (wrK S t r x)) (nv r / 4)) 11 0), .int ((cleanS (sS S 17 (wrK S t r x)) (nv r / 4)) 12 0), .ref (ad 2002), .ref (ad 2003), .ref (ad 2004), .int ((cleanS (sS S 17 (wrK S t r x)) (nv r / 4)) 13 0), .ref (ad 2005), .ref (ad 2006), .ref (ad 2007), .ref (ad 2008), .int ((cleanS (sS S 17 (wrK S t r x)) (nv r / 4)) 14 0), .ref (ad 2009), .ref (ad 2010), .int ((cleanS (sS S 17 (wrK S t r x)) (nv r / 4)) 15 0), .int ((cleanS (sS S 17 (wrK S t r x)) (nv r / 4)) 16 0), .int ((cleanS (sS S 17 (wrK S t r x)) (nv r / 4)) 17 0)])) from hM.o) rfl hiRX6 tyX6 tyX6_ok nmX6 12 (by decide) (hts (.fieldLink RX6 58 "UndoCellarModel" "dropped" "I") (by decide +kernel)) (fun _ h9 => h9) rfl (ty := tyX6 12) (tyX6_ok 12 (by decide)) rfl rfl (Nat.le_of_ble_eq_true rfl) dX6_write_221 (fun H47 locs w45 e46 hW => ?_)
                have hM := hM.s14 e46
                refine lv_aload_n hx hb dX6_write_224 rfl (lv_at hl 6 rfl) ?_
                refine kk_get hx hb hts hown hE hW (show w45 2000 = some (.inr (7, [.ref (ad 2001), .int ((cleanS (sS S 17 (wrK S t r x)) (nv r / 4)) 10 0), .int ((cleanS (sS S 17 (wrK S t r x)) (nv r / 4)) 11 0), .int ((cleanS (sS S 17 (wrK S t r x)) (nv r / 4)) 12 0), .ref (ad 2002), .ref (ad 2003), .ref (ad 2004), .int ((cleanS (sS S 17 (wrK S t r x)) (nv r / 4)) 13 0), .ref (ad 2005), .ref (ad 2006), .ref (ad 2007), .ref (ad 2008), .int (((S 14 0) + (bI (S 13 0 - S 14 0 = S 10 0)))), .ref (ad 2009), .ref (ad 2010), .int ((cleanS (sS S 17 (wrK S t r x)) (nv r / 4)) 15 0), .int ((cleanS (sS S 17 (wrK S t r x)) (nv r / 4)) 16 0), .int ((cleanS (sS S 17 (wrK S t r x)) (nv r / 4)) 17 0)])) from hM.o) rfl hiRX6 8 (by decide) (hts (.fieldLink RX6 26 "UndoCellarModel" "by" "[I") (by decide +kernel)) (fun _ h9 => h9) rfl dX6_write_225 ?_
                refine lv_aload_n hx hb dX6_write_228 rfl (lv_at hl 6 rfl) ?_
                refine kk_get hx hb hts hown hE hW (show w45 2000 = some (.inr (7, [.ref (ad 2001), .int ((cleanS (sS S 17 (wrK S t r x)) (nv r / 4)) 10 0), .int ((cleanS (sS S 17 (wrK S t r x)) (nv r / 4)) 11 0), .int ((cleanS (sS S 17 (wrK S t r x)) (nv r / 4)) 12 0), .ref (ad 2002), .ref (ad 2003), .ref (ad 2004), .int ((cleanS (sS S 17 (wrK S t r x)) (nv r / 4)) 13 0), .ref (ad 2005), .ref (ad 2006), .ref (ad 2007), .ref (ad 2008), .int (((S 14 0) + (bI (S 13 0 - S 14 0 = S 10 0)))), .ref (ad 2009), .ref (ad 2010), .int ((cleanS (sS S 17 (wrK S t r x)) (nv r / 4)) 15 0), .int ((cleanS (sS S 17 (wrK S t r x)) (nv r / 4)) 16 0), .int ((cleanS (sS S 17 (wrK S t r x)) (nv r / 4)) 17 0)])) from hM.o) rfl hiRX6 7 (by decide) (hts (.fieldLink RX6 55 "UndoCellarModel" "changes" "I") (by decide +kernel)) (fun _ h9 => h9) rfl dX6_write_229 ?_
                refine lv_iload_n hx hb dX6_write_232 rfl (lv_at hl 7 rfl) ?_
                refine kk_iast hx hb hE hW (show w45 2005 = some (.inl (D.1 100, 2000, .inl ((cleanS (sS S 17 (wrK S t r x)) (nv r / 4)) 4))) from hM.a4) (by rw [n13]; exact hc20) dX6_write_233 (fun H50 locs w48 e49 hW => ?_)
                rw [n13] at e49
                have hM := hM.t4 e49
                refine lv_aload_n hx hb dX6_write_234 rfl (lv_at hl 6 rfl) ?_
                refine kk_get hx hb hts hown hE hW (show w48 2000 = some (.inr (7, [.ref (ad 2001), .int ((cleanS (sS S 17 (wrK S t r x)) (nv r / 4)) 10 0), .int ((cleanS (sS S 17 (wrK S t r x)) (nv r / 4)) 11 0), .int ((cleanS (sS S 17 (wrK S t r x)) (nv r / 4)) 12 0), .ref (ad 2002), .ref (ad 2003), .ref (ad 2004), .int ((cleanS (sS S 17 (wrK S t r x)) (nv r / 4)) 13 0), .ref (ad 2005), .ref (ad 2006), .ref (ad 2007), .ref (ad 2008), .int (((S 14 0) + (bI (S 13 0 - S 14 0 = S 10 0)))), .ref (ad 2009), .ref (ad 2010), .int ((cleanS (sS S 17 (wrK S t r x)) (nv r / 4)) 15 0), .int ((cleanS (sS S 17 (wrK S t r x)) (nv r / 4)) 16 0), .int ((cleanS (sS S 17 (wrK S t r x)) (nv r / 4)) 17 0)])) from hM.o) rfl hiRX6 9 (by decide) (hts (.fieldLink RX6 29 "UndoCellarModel" "row" "[I") (by decide +kernel)) (fun _ h9 => h9) rfl dX6_write_235 ?_
                refine lv_aload_n hx hb dX6_write_238 rfl (lv_at hl 6 rfl) ?_
                refine kk_get hx hb hts hown hE hW (show w48 2000 = some (.inr (7, [.ref (ad 2001), .int ((cleanS (sS S 17 (wrK S t r x)) (nv r / 4)) 10 0), .int ((cleanS (sS S 17 (wrK S t r x)) (nv r / 4)) 11 0), .int ((cleanS (sS S 17 (wrK S t r x)) (nv r / 4)) 12 0), .ref (ad 2002), .ref (ad 2003), .ref (ad 2004), .int ((cleanS (sS S 17 (wrK S t r x)) (nv r / 4)) 13 0), .ref (ad 2005), .ref (ad 2006), .ref (ad 2007), .ref (ad 2008), .int (((S 14 0) + (bI (S 13 0 - S 14 0 = S 10 0)))), .ref (ad 2009), .ref (ad 2010), .int ((cleanS (sS S 17 (wrK S t r x)) (nv r / 4)) 15 0), .int ((cleanS (sS S 17 (wrK S t r x)) (nv r / 4)) 16 0), .int ((cleanS (sS S 17 (wrK S t r x)) (nv r / 4)) 17 0)])) from hM.o) rfl hiRX6 7 (by decide) (hts (.fieldLink RX6 55 "UndoCellarModel" "changes" "I") (by decide +kernel)) (fun _ h9 => h9) rfl dX6_write_239 ?_
                refine lv_iload_n hx hb dX6_write_242 rfl (lv_at hl 8 rfl) ?_
                refine kk_iast hx hb hE hW (show w48 2006 = some (.inl (D.1 100, 2000, .inl ((cleanS (sS S 17 (wrK S t r x)) (nv r / 4)) 5))) from hM.a5) (by rw [n13]; exact hc20) dX6_write_243 (fun H53 locs w51 e52 hW => ?_)
                rw [n13] at e52
                have hM := hM.t5 e52
                refine lv_aload_n hx hb dX6_write_244 rfl (lv_at hl 6 rfl) ?_
                refine kk_get hx hb hts hown hE hW (show w51 2000 = some (.inr (7, [.ref (ad 2001), .int ((cleanS (sS S 17 (wrK S t r x)) (nv r / 4)) 10 0), .int ((cleanS (sS S 17 (wrK S t r x)) (nv r / 4)) 11 0), .int ((cleanS (sS S 17 (wrK S t r x)) (nv r / 4)) 12 0), .ref (ad 2002), .ref (ad 2003), .ref (ad 2004), .int ((cleanS (sS S 17 (wrK S t r x)) (nv r / 4)) 13 0), .ref (ad 2005), .ref (ad 2006), .ref (ad 2007), .ref (ad 2008), .int (((S 14 0) + (bI (S 13 0 - S 14 0 = S 10 0)))), .ref (ad 2009), .ref (ad 2010), .int ((cleanS (sS S 17 (wrK S t r x)) (nv r / 4)) 15 0), .int ((cleanS (sS S 17 (wrK S t r x)) (nv r / 4)) 16 0), .int ((cleanS (sS S 17 (wrK S t r x)) (nv r / 4)) 17 0)])) from hM.o) rfl hiRX6 10 (by decide) (hts (.fieldLink RX6 32 "UndoCellarModel" "ahead" "[I") (by decide +kernel)) (fun _ h9 => h9) rfl dX6_write_245 ?_
                refine lv_aload_n hx hb dX6_write_248 rfl (lv_at hl 6 rfl) ?_
                refine kk_get hx hb hts hown hE hW (show w51 2000 = some (.inr (7, [.ref (ad 2001), .int ((cleanS (sS S 17 (wrK S t r x)) (nv r / 4)) 10 0), .int ((cleanS (sS S 17 (wrK S t r x)) (nv r / 4)) 11 0), .int ((cleanS (sS S 17 (wrK S t r x)) (nv r / 4)) 12 0), .ref (ad 2002), .ref (ad 2003), .ref (ad 2004), .int ((cleanS (sS S 17 (wrK S t r x)) (nv r / 4)) 13 0), .ref (ad 2005), .ref (ad 2006), .ref (ad 2007), .ref (ad 2008), .int (((S 14 0) + (bI (S 13 0 - S 14 0 = S 10 0)))), .ref (ad 2009), .ref (ad 2010), .int ((cleanS (sS S 17 (wrK S t r x)) (nv r / 4)) 15 0), .int ((cleanS (sS S 17 (wrK S t r x)) (nv r / 4)) 16 0), .int ((cleanS (sS S 17 (wrK S t r x)) (nv r / 4)) 17 0)])) from hM.o) rfl hiRX6 7 (by decide) (hts (.fieldLink RX6 55 "UndoCellarModel" "changes" "I") (by decide +kernel)) (fun _ h9 => h9) rfl dX6_write_249 ?_
                refine lv_iload hx hb dX6_write_252 (lv_at hl 1 rfl) ?_
                refine kk_iast hx hb hE hW (show w51 2007 = some (.inl (D.1 100, 2000, .inl ((cleanS (sS S 17 (wrK S t r x)) (nv r / 4)) 6))) from hM.a6) (by rw [n13]; exact hc20) dX6_write_254 (fun H56 locs w54 e55 hW => ?_)
                rw [n13] at e55
                have hM := hM.t6 e55
                refine lv_aload_n hx hb dX6_write_255 rfl (lv_at hl 6 rfl) ?_
                refine lv_dup hx hb dX6_write_256 rfl ?_
                refine kk_get hx hb hts hown hE hW (show w54 2000 = some (.inr (7, [.ref (ad 2001), .int ((cleanS (sS S 17 (wrK S t r x)) (nv r / 4)) 10 0), .int ((cleanS (sS S 17 (wrK S t r x)) (nv r / 4)) 11 0), .int ((cleanS (sS S 17 (wrK S t r x)) (nv r / 4)) 12 0), .ref (ad 2002), .ref (ad 2003), .ref (ad 2004), .int ((cleanS (sS S 17 (wrK S t r x)) (nv r / 4)) 13 0), .ref (ad 2005), .ref (ad 2006), .ref (ad 2007), .ref (ad 2008), .int (((S 14 0) + (bI (S 13 0 - S 14 0 = S 10 0)))), .ref (ad 2009), .ref (ad 2010), .int ((cleanS (sS S 17 (wrK S t r x)) (nv r / 4)) 15 0), .int ((cleanS (sS S 17 (wrK S t r x)) (nv r / 4)) 16 0), .int ((cleanS (sS S 17 (wrK S t r x)) (nv r / 4)) 17 0)])) from hM.o) rfl hiRX6 7 (by decide) (hts (.fieldLink RX6 55 "UndoCellarModel" "changes" "I") (by decide +kernel)) (fun _ h9 => h9) rfl dX6_write_257 ?_
                rw [n13]
                refine lv_iconst (v := 1) hx hb dX6_write_260 (by decide) ?_
                refine lv_iadd hx hb dX6_write_261 ?_
                refine kk_put hx hb hts hown hE hW (show w54 2000 = some (.inr (7, [.ref (ad 2001), .int ((cleanS (sS S 17 (wrK S t r x)) (nv r / 4)) 10 0), .int ((cleanS (sS S 17 (wrK S t r x)) (nv r / 4)) 11 0), .int ((cleanS (sS S 17 (wrK S t r x)) (nv r / 4)) 12 0), .ref (ad 2002), .ref (ad 2003), .ref (ad 2004), .int ((cleanS (sS S 17 (wrK S t r x)) (nv r / 4)) 13 0), .ref (ad 2005), .ref (ad 2006), .ref (ad 2007), .ref (ad 2008), .int (((S 14 0) + (bI (S 13 0 - S 14 0 = S 10 0)))), .ref (ad 2009), .ref (ad 2010), .int ((cleanS (sS S 17 (wrK S t r x)) (nv r / 4)) 15 0), .int ((cleanS (sS S 17 (wrK S t r x)) (nv r / 4)) 16 0), .int ((cleanS (sS S 17 (wrK S t r x)) (nv r / 4)) 17 0)])) from hM.o) rfl hiRX6 tyX6 tyX6_ok nmX6 7 (by decide) (hts (.fieldLink RX6 55 "UndoCellarModel" "changes" "I") (by decide +kernel)) (fun _ h9 => h9) rfl (ty := tyX6 7) (tyX6_ok 7 (by decide)) rfl rfl (Nat.le_of_ble_eq_true rfl) dX6_write_262 (fun H59 locs w57 e58 hW => ?_)
                have hM := hM.s13 e58
                refine lv_aload_n hx hb dX6_write_265 rfl (lv_at hl 6 rfl) ?_
                refine kk_get hx hb hts hown hE hW (show w57 2000 = some (.inr (7, [.ref (ad 2001), .int ((cleanS (sS S 17 (wrK S t r x)) (nv r / 4)) 10 0), .int ((cleanS (sS S 17 (wrK S t r x)) (nv r / 4)) 11 0), .int ((cleanS (sS S 17 (wrK S t r x)) (nv r / 4)) 12 0), .ref (ad 2002), .ref (ad 2003), .ref (ad 2004), .int (((S 13 0) + 1)), .ref (ad 2005), .ref (ad 2006), .ref (ad 2007), .ref (ad 2008), .int (((S 14 0) + (bI (S 13 0 - S 14 0 = S 10 0)))), .ref (ad 2009), .ref (ad 2010), .int ((cleanS (sS S 17 (wrK S t r x)) (nv r / 4)) 15 0), .int ((cleanS (sS S 17 (wrK S t r x)) (nv r / 4)) 16 0), .int ((cleanS (sS S 17 (wrK S t r x)) (nv r / 4)) 17 0)])) from hM.o) rfl hiRX6 0 (by decide) (hts (.fieldLink RX6 7 "UndoCellarModel" "value" "[I") (by decide +kernel)) (fun _ h9 => h9) rfl dX6_write_266 ?_
                refine lv_iload_n hx hb dX6_write_269 rfl (lv_at hl 8 rfl) ?_
                refine lv_iload_n hx hb dX6_write_270 rfl (lv_at hl 9 rfl) ?_
                refine kk_iast hx hb hE hW (show w57 2001 = some (.inl (D.1 100, 12, .inl ((cleanS (sS S 17 (wrK S t r x)) (nv r / 4)) 0))) from hM.a0) hv12 dX6_write_271 (fun H62 locs w60 e61 hW => ?_)
                have hM := hM.t0 e61
                refine lv_iload hx hb dX6_write_272 (lv_at hl 1 rfl) ?_
                exact ke_i hx hb hr hlocks (Nat.le_of_ble_eq_true rfl) (Nat.le_of_ble_eq_true rfl) dX6_write_274 hW (⟨(if_pos ho).symm, rfl, by rw [show wrN S t r x = _ from if_pos ho]; exact hM⟩)
              · refine lv_icmp_ne (tgt := 219) hx hb dX6_write_212 (by decide) (fun c63 => ?_) (fun c63 => ?_)
                · refine lv_iconst (v := 0) hx hb dX6_write_219 (by decide) ?_
                  exact J220 _ ((bI_0 c63).symm)
                · refine lv_iconst (v := 1) hx hb dX6_write_215 (by decide) ?_
                  refine lv_goto (tgt := 220) hx hb dX6_write_216 (by decide) ?_
                  exact J220 _ ((bI_1 c63).symm)
            · refine lv_iconst (v := 0) hx hb dX6_write_151 (by decide) ?_
              exact ke_i hx hb hr hlocks (Nat.le_of_ble_eq_true rfl) (Nat.le_of_ble_eq_true rfl) dX6_write_152 hW (⟨(if_neg (bI_f c22)).symm, rfl, by rw [show wrN S t r x = _ from if_neg (bI_f c22)]; exact hM⟩)
          · refine lv_iload hx hb dX6_write_117 (lv_at hl 3 rfl) ?_
            refine lv_if_ne (tgt := 126) hx hb dX6_write_119 (by decide) (fun c64 => ?_) (fun c64 => ?_)
            · refine lv_iload hx hb dX6_write_126 (lv_at hl 2 rfl) ?_
              refine lv_if_ne (tgt := 135) hx hb dX6_write_128 (by decide) (fun c65 => ?_) (fun c65 => ?_)
              · refine lv_iload hx hb dX6_write_135 (lv_at hl 0 rfl) ?_
                refine lv_if_eq (tgt := 144) hx hb dX6_write_137 (by decide) (fun c66 => ?_) (fun c66 => ?_)
                · refine lv_iconst (v := 3) hx hb dX6_write_144 (by decide) ?_
                  exact J145 _ _ _ ((wrK_3 (bI_t c64) (bI_t c65) (bI_f c66)).symm) hW
                · refine lv_iconst (v := 0) hx hb dX6_write_140 (by decide) ?_
                  refine lv_goto (tgt := 145) hx hb dX6_write_141 (by decide) ?_
                  exact J145 _ _ _ ((wrK_0 (bI_t c64) (bI_t c65) (bI_t c66)).symm) hW
              · refine lv_iconst (v := 2) hx hb dX6_write_131 (by decide) ?_
                refine lv_goto (tgt := 145) hx hb dX6_write_132 (by decide) ?_
                exact J145 _ _ _ ((wrK_2 (bI_t c64) (bI_f c65)).symm) hW
            · refine lv_iconst (v := 1) hx hb dX6_write_122 (by decide) ?_
              refine lv_goto (tgt := 145) hx hb dX6_write_123 (by decide) ?_
              exact J145 _ _ _ ((wrK_1 (bI_f c64)).symm) hW
        · refine lv_iload hx hb dX6_write_73 (lv_at hl 1 rfl) ?_
          refine lv_if_eq (tgt := 113) hx hb dX6_write_75 (by decide) (fun c67 => ?_) (fun c67 => ?_)
          · refine lv_iconst (v := 0) hx hb dX6_write_113 (by decide) ?_
            exact J114 _ _ _ ((bI_0 (fun q => (bI_f c67) q.1)).symm) hW
          · have hcan := bI_t c67
            have hlk : (if canP S t r x then lockV S r else -1) = lockV S r := if_pos hcan
            refine lv_iload hx hb dX6_write_78 (lv_at hl 0 rfl) ?_
            refine lv_iconst (v := (-1)) hx hb dX6_write_80 (by decide) ?_
            refine lv_icmp_eq (tgt := 90) hx hb dX6_write_81 (by decide) (fun c68 => ?_) (fun c68 => ?_)
            · have hlo : lkO S t r := Or.inl (by rw [hlk] at c68; exact c68)
              obtain ⟨j9, hj9, ej9⟩ := inP_N (n := 11) (by decide) hcan.1.2
              have hnv9 : nv r = j9 := by rw [ej9]; exact nv_nI (by omega)
              have hdv : r / 4 = nI (nv r / 4) := by
                rw [hnv9, ej9]
                exact pk_div (d := 4) (by omega) (by decide) (by decide)
              have hb3 : nv r / 4 < 3 := by omega
              refine lv_aload_n hx hb dX6_write_90 rfl (lv_at hl 4 rfl) ?_
              refine lv_iload_n hx hb dX6_write_91 rfl (lv_at hl 5 rfl) ?_
              refine lv_iload_n hx hb dX6_write_92 rfl (lv_at hl 6 rfl) ?_
              refine lv_iconst (v := 4) hx hb dX6_write_93 (by decide) ?_
              refine lv_idiv hx hb dX6_write_94 (by decide) ?_
              rw [hdv]
              refine kk_i (va_runV (As := [.int t, .int (nI (nv r / 4))]) (rest := []) ⟨hx, hb, hml, hown, hts⟩ (c_slotFor l D A ad w (S) hM.re t (nv r / 4) hb3 hsl) (cwV 2 hts gX6_write_X6_slotFor rfl rfl rfl (by decide +kernel) ⟨Nat.le_of_ble_eq_true rfl, Nat.le_of_ble_eq_true rfl⟩) (kV hE hW hM.o rfl _) rfl rfl hl.1 rfl (lv_room (Nat.le_of_ble_eq_true rfl)) dX6_write_95 ⟨Nat.le_of_ble_eq_true rfl, Nat.le_of_ble_eq_true rfl⟩) hW (fun r72 ad69 w70 H73 locs hp71 hW => ?_)
              obtain ⟨e74, e75, e76⟩ := hp71
              rw [e75, e76] at hW
              subst e74
              refine lv_iconst (v := (-1)) hx hb dX6_write_98 (by decide) ?_
              refine lv_icmp_eq (tgt := 113) hx hb dX6_write_99 (by decide) (fun c77 => ?_) (fun c77 => ?_)
              · refine lv_iconst (v := 0) hx hb dX6_write_113 (by decide) ?_
                exact J114 _ _ _ ((bI_0 (fun q => q.2.2.1 c77)).symm) hW
              · have hsp9 : ¬ S 13 0 - S 14 0 < S 10 0 → vp_in (S 4 nD) 60 := fun q => by
                  rcases Nat.lt_or_ge nD nC with h | h
                  · exact hby nD h
                  · exfalso
                    refine q ?_
                    rw [hC, hD, hZ, pk_sub hd]
                    exact nI_lt (by omega) (by omega)
                refine lv_aload_n hx hb dX6_write_102 rfl (lv_at hl 4 rfl) ?_
                refine kk_i (va_runV (As := []) (rest := []) ⟨hx, hb, hml, hown, hts⟩ (c_hasSpace l D A ad w (S) hM.re nD hD (by omega) hsp9) (cwV 0 hts gX6_write_X6_hasSpace rfl rfl rfl (by decide +kernel) ⟨Nat.le_of_ble_eq_true rfl, Nat.le_of_ble_eq_true rfl⟩) (kV hE hW hM.o rfl _) rfl rfl hl.1 rfl (lv_room (Nat.le_of_ble_eq_true rfl)) dX6_write_103 ⟨Nat.le_of_ble_eq_true rfl, Nat.le_of_ble_eq_true rfl⟩) hW (fun r81 ad78 w79 H82 locs hp80 hW => ?_)
                obtain ⟨e83, e84, e85⟩ := hp80
                rw [e84, e85] at hW
                subst e83
                refine lv_if_eq (tgt := 113) hx hb dX6_write_106 (by decide) (fun c86 => ?_) (fun c86 => ?_)
                · refine lv_iconst (v := 0) hx hb dX6_write_113 (by decide) ?_
                  exact J114 _ _ _ ((bI_0 (fun q => (bI_f c86) q.2.2.2)).symm) hW
                · refine lv_iconst (v := 1) hx hb dX6_write_109 (by decide) ?_
                  refine lv_goto (tgt := 114) hx hb dX6_write_110 (by decide) ?_
                  exact J114 _ _ _ ((bI_1 ⟨hcan, hlo, c77, bI_t c86⟩).symm) hW
            · refine lv_iload hx hb dX6_write_84 (lv_at hl 0 rfl) ?_
              refine lv_iload_n hx hb dX6_write_86 rfl (lv_at hl 5 rfl) ?_
              refine lv_icmp_ne (tgt := 113) hx hb dX6_write_87 (by decide) (fun c87 => ?_) (fun c87 => ?_)
              · refine lv_iconst (v := 0) hx hb dX6_write_113 (by decide) ?_
                exact J114 _ _ _ ((bI_0 (fun q => q.2.1.elim (fun z => c68 (by rw [hlk]; exact z)) (fun z => c87 (by rw [hlk]; exact z)))).symm) hW
              · have hlo : lkO S t r := Or.inr (by rw [hlk] at c87; exact c87)
                obtain ⟨j9, hj9, ej9⟩ := inP_N (n := 11) (by decide) hcan.1.2
                have hnv9 : nv r = j9 := by rw [ej9]; exact nv_nI (by omega)
                have hdv : r / 4 = nI (nv r / 4) := by
                  rw [hnv9, ej9]
                  exact pk_div (d := 4) (by omega) (by decide) (by decide)
                have hb3 : nv r / 4 < 3 := by omega
                refine lv_aload_n hx hb dX6_write_90 rfl (lv_at hl 4 rfl) ?_
                refine lv_iload_n hx hb dX6_write_91 rfl (lv_at hl 5 rfl) ?_
                refine lv_iload_n hx hb dX6_write_92 rfl (lv_at hl 6 rfl) ?_
                refine lv_iconst (v := 4) hx hb dX6_write_93 (by decide) ?_
                refine lv_idiv hx hb dX6_write_94 (by decide) ?_
                rw [hdv]
                refine kk_i (va_runV (As := [.int t, .int (nI (nv r / 4))]) (rest := []) ⟨hx, hb, hml, hown, hts⟩ (c_slotFor l D A ad w (S) hM.re t (nv r / 4) hb3 hsl) (cwV 2 hts gX6_write_X6_slotFor rfl rfl rfl (by decide +kernel) ⟨Nat.le_of_ble_eq_true rfl, Nat.le_of_ble_eq_true rfl⟩) (kV hE hW hM.o rfl _) rfl rfl hl.1 rfl (lv_room (Nat.le_of_ble_eq_true rfl)) dX6_write_95 ⟨Nat.le_of_ble_eq_true rfl, Nat.le_of_ble_eq_true rfl⟩) hW (fun r91 ad88 w89 H92 locs hp90 hW => ?_)
                obtain ⟨e93, e94, e95⟩ := hp90
                rw [e94, e95] at hW
                subst e93
                refine lv_iconst (v := (-1)) hx hb dX6_write_98 (by decide) ?_
                refine lv_icmp_eq (tgt := 113) hx hb dX6_write_99 (by decide) (fun c96 => ?_) (fun c96 => ?_)
                · refine lv_iconst (v := 0) hx hb dX6_write_113 (by decide) ?_
                  exact J114 _ _ _ ((bI_0 (fun q => q.2.2.1 c96)).symm) hW
                · have hsp9 : ¬ S 13 0 - S 14 0 < S 10 0 → vp_in (S 4 nD) 60 := fun q => by
                    rcases Nat.lt_or_ge nD nC with h | h
                    · exact hby nD h
                    · exfalso
                      refine q ?_
                      rw [hC, hD, hZ, pk_sub hd]
                      exact nI_lt (by omega) (by omega)
                  refine lv_aload_n hx hb dX6_write_102 rfl (lv_at hl 4 rfl) ?_
                  refine kk_i (va_runV (As := []) (rest := []) ⟨hx, hb, hml, hown, hts⟩ (c_hasSpace l D A ad w (S) hM.re nD hD (by omega) hsp9) (cwV 0 hts gX6_write_X6_hasSpace rfl rfl rfl (by decide +kernel) ⟨Nat.le_of_ble_eq_true rfl, Nat.le_of_ble_eq_true rfl⟩) (kV hE hW hM.o rfl _) rfl rfl hl.1 rfl (lv_room (Nat.le_of_ble_eq_true rfl)) dX6_write_103 ⟨Nat.le_of_ble_eq_true rfl, Nat.le_of_ble_eq_true rfl⟩) hW (fun r100 ad97 w98 H101 locs hp99 hW => ?_)
                  obtain ⟨e102, e103, e104⟩ := hp99
                  rw [e103, e104] at hW
                  subst e102
                  refine lv_if_eq (tgt := 113) hx hb dX6_write_106 (by decide) (fun c105 => ?_) (fun c105 => ?_)
                  · refine lv_iconst (v := 0) hx hb dX6_write_113 (by decide) ?_
                    exact J114 _ _ _ ((bI_0 (fun q => (bI_f c105) q.2.2.2)).symm) hW
                  · refine lv_iconst (v := 1) hx hb dX6_write_109 (by decide) ?_
                    refine lv_goto (tgt := 114) hx hb dX6_write_110 (by decide) ?_
                    exact J114 _ _ _ ((bI_1 ⟨hcan, hlo, c96, bI_t c105⟩).symm) hW
      · refine lv_iload hx hb dX6_write_57 (lv_at hl 0 rfl) ?_
        refine lv_if_eq (tgt := 70) hx hb dX6_write_59 (by decide) (fun c106 => ?_) (fun c106 => ?_)
        · refine lv_iconst (v := (-1)) hx hb dX6_write_70 (by decide) ?_
          exact J71 _ _ _ ((if_neg (bI_f c106)).symm) hW
        · refine lv_aload_n hx hb dX6_write_62 rfl (lv_at hl 3 rfl) ?_
          refine lv_iload_n hx hb dX6_write_63 rfl (lv_at hl 5 rfl) ?_
          refine kk_i (va_runV (As := [.int r]) (rest := []) ⟨hx, hb, hml, hown, hts⟩ (c_lockOn l D A ad w (S) hM.re r nC hC hn hby) (cwV 1 hts gX6_write_X6_lockOn rfl rfl rfl (by decide +kernel) ⟨Nat.le_of_ble_eq_true rfl, Nat.le_of_ble_eq_true rfl⟩) (kV hE hW hM.o rfl _) rfl rfl hl.1 rfl (lv_room (Nat.le_of_ble_eq_true rfl)) dX6_write_64 ⟨Nat.le_of_ble_eq_true rfl, Nat.le_of_ble_eq_true rfl⟩) hW (fun r110 ad107 w108 H111 locs hp109 hW => ?_)
          obtain ⟨e112, e113, e114⟩ := hp109
          rw [e113, e114] at hW
          subst e112
          refine lv_goto (tgt := 71) hx hb dX6_write_67 (by decide) ?_
          exact J71 _ _ _ ((if_pos (bI_t c106)).symm) hW
    · refine lv_iload hx hb dX6_write_32 (lv_at hl 1 rfl) ?_
      refine lv_if_eq (tgt := 54) hx hb dX6_write_34 (by decide) (fun c115 => ?_) (fun c115 => ?_)
      · refine lv_iconst (v := 0) hx hb dX6_write_54 (by decide) ?_
        exact J55 _ _ _ ((bI_0 (fun q => (bI_f c115) q.1)).symm) hW
      · refine lv_iload hx hb dX6_write_37 (lv_at hl 0 rfl) ?_
        refine lv_if_eq (tgt := 54) hx hb dX6_write_39 (by decide) (fun c116 => ?_) (fun c116 => ?_)
        · refine lv_iconst (v := 0) hx hb dX6_write_54 (by decide) ?_
          exact J55 _ _ _ ((bI_0 (fun q => (bI_f c116) q.2.1)).symm) hW
        · have hth := bI_t c115
          have hv6 : vp_in t 60 := by
            obtain ⟨j, h1, rfl⟩ := inP_T hT6 (by rw [← hT]; exact hth.1)
            exact vp_in_nI (by omega) (by omega)
          refine lv_aload_n hx hb dX6_write_42 rfl (lv_at hl 2 rfl) ?_
          refine lv_iload_n hx hb dX6_write_43 rfl (lv_at hl 3 rfl) ?_
          refine kk_i (va_runV (As := [.int t]) (rest := []) ⟨hx, hb, hml, hown, hts⟩ (c_isActive l D A ad w (S) hM.re t hv6) (cwV 1 hts gX6_write_X6_isActive rfl rfl rfl (by decide +kernel) ⟨Nat.le_of_ble_eq_true rfl, Nat.le_of_ble_eq_true rfl⟩) (kV hE hW hM.o rfl _) rfl rfl hl.1 rfl (lv_room (Nat.le_of_ble_eq_true rfl)) dX6_write_44 ⟨Nat.le_of_ble_eq_true rfl, Nat.le_of_ble_eq_true rfl⟩) hW (fun r120 ad117 w118 H121 locs hp119 hW => ?_)
          obtain ⟨e122, e123, e124⟩ := hp119
          rw [e123, e124] at hW
          subst e122
          refine lv_if_eq (tgt := 54) hx hb dX6_write_47 (by decide) (fun c125 => ?_) (fun c125 => ?_)
          · refine lv_iconst (v := 0) hx hb dX6_write_54 (by decide) ?_
            exact J55 _ _ _ ((bI_0 (fun q => (bI_f c125) q.2.2)).symm) hW
          · refine lv_iconst (v := 1) hx hb dX6_write_50 (by decide) ?_
            refine lv_goto (tgt := 55) hx hb dX6_write_51 (by decide) ?_
            exact J55 _ _ _ ((bI_1 ⟨hth, bI_t c116, bI_t c125⟩).symm) hW
  · refine kk_i (va_runV (As := [.int t]) (rest := []) ⟨hx, hb, hml, hown, hts⟩ (c_isTransaction l D A ad w (S) hM.re t) (cwV 1 hts gX6_write_X6_isTransaction rfl rfl rfl (by decide +kernel) ⟨Nat.le_of_ble_eq_true rfl, Nat.le_of_ble_eq_true rfl⟩) (kV hE hW hM.o rfl _) rfl rfl hl.1 rfl (lv_room (Nat.le_of_ble_eq_true rfl)) dX6_write_2 ⟨Nat.le_of_ble_eq_true rfl, Nat.le_of_ble_eq_true rfl⟩) hW (fun r129 ad126 w127 H130 locs hp128 hW => ?_)
    obtain ⟨e131, e132, e133⟩ := hp128
    rw [e132, e133] at hW
    subst e131
    refine lv_if_eq (tgt := 19) hx hb dX6_write_5 (by decide) (fun c134 => ?_) (fun c134 => ?_)
    · refine lv_iconst (v := 0) hx hb dX6_write_19 (by decide) ?_
      exact J20 _ _ _ ((bI_0 (fun q => (bI_f c134) q.1)).symm) hW
    · refine lv_iload_n hx hb dX6_write_8 rfl (lv_at hl 2 rfl) ?_
      refine kk_i (va_runS (As := [.int r]) (rest := []) ⟨hx, hb, hml, hown, hts⟩ (c_isRow l D A ad w r) (va_cwS 1 hts gX6_write_X6_isRow rfl rfl rfl (by decide +kernel) ⟨Nat.le_of_ble_eq_true rfl, Nat.le_of_ble_eq_true rfl⟩) (kSt hE hW _) rfl rfl hl.1 rfl (lv_room (Nat.le_of_ble_eq_true rfl)) dX6_write_9 ⟨Nat.le_of_ble_eq_true rfl, Nat.le_of_ble_eq_true rfl⟩) hW (fun r138 ad135 w136 H139 locs hp137 hW => ?_)
      obtain ⟨e140, e141, e142⟩ := hp137
      rw [e141, e142] at hW
      subst e140
      refine lv_if_eq (tgt := 19) hx hb dX6_write_12 (by decide) (fun c143 => ?_) (fun c143 => ?_)
      · refine lv_iconst (v := 0) hx hb dX6_write_19 (by decide) ?_
        exact J20 _ _ _ ((bI_0 (fun q => (bI_f c143) q.2)).symm) hW
      · refine lv_iconst (v := 1) hx hb dX6_write_15 (by decide) ?_
        refine lv_goto (tgt := 20) hx hb dX6_write_16 (by decide) ?_
        exact J20 _ _ _ ((bI_1 ⟨bI_t c134, bI_t c143⟩).symm) hW

