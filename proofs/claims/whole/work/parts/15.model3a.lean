/-! the reference: its calls -/
set_option maxHeartbeats 4000000 in
set_option maxRecDepth 100000 in
/-- c_valueAt -/
theorem c_valueAt (l : Launch) (D : va_G) (A : Nat → Prop) (ad : Nat → Nat) (w : kWd) (S : St) (hM : MW D S ad w w) (mm r t : Int32) (hr12 : vp_in r 12) (nC : Nat) (hC : S 13 0 = nI nC) (hn : nC ≤ 2000) (hby : ∀ k, k < nC → vp_in (S 4 k) 60) : Met l yX6_valueAt wsX6_valueAt ({ frames := 0, cells := 0, slots := 0, locals := 0 }) (kPc D A [.ref (ad 2000), .int mm, .int r, .int t] ad w) (kQi D A (fun v ad' w' => v = (vaV S mm r t).1 ∧ ad' = ad ∧ MW D (sS S 16 (vaV S mm r t).2) ad w w')) 0 0 A := by
  refine Met.ofW (cc := cX6_valueAt) (maxL := 7) (ret := (some (.int))) (by decide) rfl ?_
  intro p e s m args below meth c s₁ B hml hv
  obtain ⟨rfl, hE, hW0, hI0, hA⟩ := hv
  have hx := B.exec
  have hb := B.bytes
  have hr := B.returns
  have hts := atoms_spec (ws := wsX6_valueAt) B.pre
  have hown : s.vm.findClass RX6 = some m.cls := findClass_of_methodNamed B.named
  have hlocks := B.notSynchronized
  have hiRX6 : ∀ w ∈ wsX60, w ∈ wsX6_valueAt := by decide +kernel
  have hW : kS D A s.heap ad w s.heap [] := ⟨hW0, hI0, va_S.rf, hA⟩
  have hl := lv_entry ([.ref (ad 2000), .int mm, .int r, .int t]) (n := 7) (Nat.le_of_ble_eq_true rfl)
  rw [lg_entry_eq]
  generalize (lg_sl ([.ref (ad 2000), .int mm, .int r, .int t]) ++ List.replicate (7 - (lg_sl ([.ref (ad 2000), .int mm, .int r, .int t])).length) Slot.unset).toArray = ls at hl ⊢
  have hl : lv_has ls 7 [(0, .ref (ad 2000)), (1, .int mm), (2, .int r), (3, .int t)] := hl
  have hnv : nv (S 13 0) = nC := by rw [hC]; exact nI_clamp (by omega)
  have loop : ∀ (n : Nat) (v z : Int32) (w1 : kWd) (H : Heap) (locs : List Loc), n ≤ nC → (z = 0 ∨ z = 1) → vaL S mm r t n v z = vaV S mm r t → MW D (sS S 16 z) ad w w1 → kS D A s.heap ad w1 H locs → ∀ ls, lv_has ls 7 [(6, .int (nI n - 1)), (5, .int 1), (4, .int v), (0, .ref (ad 2000)), (1, .int mm), (2, .int r), (3, .int t)] → W p l e ({ frames := 0, cells := 0, slots := 0, locals := 0 }) s m ([.ref (ad 2000), .int mm, .int r, .int t] : List Value).toArray below meth c H locs 0 0 (MQ below (kQi D A (fun v ad' w' => v = (vaV S mm r t).1 ∧ ad' = ad ∧ MW D (sS S 16 (vaV S mm r t).2) ad w w')) ([.ref (ad 2000), .int mm, .int r, .int t] : List Value).toArray s 0 0 A) (F0 m 24 ls []) := by
    intro n
    induction n with
    | zero =>
      intro v z w1 H locs hn9 hz he hM hW ls hl
      refine lv_iload hx hb dX6_valueAt_24 (lv_at hl 0 rfl) ?_
      refine lv_if_lt (tgt := 160) hx hb dX6_valueAt_26 (by decide) (fun _ => ?_) (fun c9 => absurd (nI_m1) c9)
      refine lv_iload hx hb dX6_valueAt_160 (lv_at hl 2 rfl) ?_
      exact ke_i hx hb hr hlocks (Nat.le_of_ble_eq_true rfl) (Nat.le_of_ble_eq_true rfl) dX6_valueAt_162 hW (⟨by rw [← he]; rfl, rfl, by rw [← he]; exact hM⟩)
    | succ n ih =>
      intro v z w1 H locs hn9 hz he hM hW ls hl
      rw [nI_dn] at hl
      refine lv_iload hx hb dX6_valueAt_24 (lv_at hl 0 rfl) ?_
      refine lv_if_lt (tgt := 160) hx hb dX6_valueAt_26 (by decide) (fun c9 => absurd c9 (nI_pos (by omega))) (fun _ => ?_)
      refine lv_iload hx hb dX6_valueAt_29 (lv_at hl 1 rfl) ?_
      refine lv_if_eq (tgt := 160) hx hb dX6_valueAt_31 (by decide) (fun c9 => absurd c9 (by decide)) (fun _ => ?_)
      refine lv_aload_n hx hb dX6_valueAt_34 rfl (lv_at hl 3 rfl) ?_
      refine kk_get hx hb hts hown hE hW (show w1 2000 = some (.inr (7, [.ref (ad 2001), .int (S 10 0), .int (S 11 0), .int (S 12 0), .ref (ad 2002), .ref (ad 2003), .ref (ad 2004), .int (S 13 0), .ref (ad 2005), .ref (ad 2006), .ref (ad 2007), .ref (ad 2008), .int (S 14 0), .ref (ad 2009), .ref (ad 2010), .int (S 15 0), .int (z), .int (S 17 0)])) from hM.o) rfl hiRX6 9 (by decide) (hts (.fieldLink RX6 29 "UndoCellarModel" "row" "[I") (by decide +kernel)) (fun _ h9 => h9) rfl dX6_valueAt_35 ?_
      refine lv_iload hx hb dX6_valueAt_38 (lv_at hl 0 rfl) ?_
      refine kk_iald hx hb hE hW (show w1 2006 = some (.inl (D.1 100, 2000, .inl (S 5))) from hM.a5) (vp_in_nI (by omega) (by omega)) dX6_valueAt_40 ?_
      rw [nI_clamp (show n < 2 ^ 31 by omega)]
      refine lv_iload_n hx hb dX6_valueAt_41 rfl (lv_at hl 5 rfl) ?_
      refine lv_icmp_ne (tgt := 154) hx hb dX6_valueAt_42 (by decide) (fun c1 => ?_) (fun c1 => ?_)
      · refine lv_iinc (v := nI n - 1) (lv' := [(6, .int (nI n - 1)), (5, .int 1), (4, .int v), (0, .ref (ad 2000)), (1, .int mm), (2, .int r), (3, .int t)]) hx hb dX6_valueAt_154 hl (k := 0) rfl (i_sub1 _) (by decide) rfl (fun ls hl => ?_)
        refine lv_goto (tgt := 24) hx hb dX6_valueAt_157 (by decide) ?_
        exact ih v z w1 _ _ (by omega) hz (by rw [← he]; exact (if_neg (fun q => c1 q.1)).symm) hM hW ls hl
      · refine lv_aload_n hx hb dX6_valueAt_45 rfl (lv_at hl 3 rfl) ?_
        refine kk_get hx hb hts hown hE hW (show w1 2000 = some (.inr (7, [.ref (ad 2001), .int (S 10 0), .int (S 11 0), .int (S 12 0), .ref (ad 2002), .ref (ad 2003), .ref (ad 2004), .int (S 13 0), .ref (ad 2005), .ref (ad 2006), .ref (ad 2007), .ref (ad 2008), .int (S 14 0), .ref (ad 2009), .ref (ad 2010), .int (S 15 0), .int (z), .int (S 17 0)])) from hM.o) rfl hiRX6 11 (by decide) (hts (.fieldLink RX6 35 "UndoCellarModel" "isVoid" "[Z") (by decide +kernel)) (fun _ h9 => h9) rfl dX6_valueAt_46 ?_
        refine lv_iload hx hb dX6_valueAt_49 (lv_at hl 0 rfl) ?_
        refine kk_zald hx hb hE hW (show w1 2008 = some (.inl (D.1 101, 2000, .inl (S 7))) from hM.a7) (vp_in_nI (by omega) (by omega)) dX6_valueAt_51 ?_
        rw [nI_clamp (show n < 2 ^ 31 by omega)]
        refine lv_if_ne (tgt := 154) hx hb dX6_valueAt_52 (by decide) (fun c2 => ?_) (fun c2 => ?_)
        · refine lv_iinc (v := nI n - 1) (lv' := [(6, .int (nI n - 1)), (5, .int 1), (4, .int v), (0, .ref (ad 2000)), (1, .int mm), (2, .int r), (3, .int t)]) hx hb dX6_valueAt_154 hl (k := 0) rfl (i_sub1 _) (by decide) rfl (fun ls hl => ?_)
          refine lv_goto (tgt := 24) hx hb dX6_valueAt_157 (by decide) ?_
          exact ih v z w1 _ _ (by omega) hz (by rw [← he]; exact (if_neg (fun q => c2 q.2)).symm) hM hW ls hl
        · refine W_join (P := fun g => (g = 0 ∧ seenP S mm t n) ∨ (g = 1 ∧ ¬ seenP S mm t n)) (pj := 103) (rj := []) (lj := ls) (fun g hg => ?_) (fun J103 => ?_)
          · rcases hg with ⟨rfl, hs⟩ | ⟨rfl, hs⟩
            · refine lv_istore (lv' := [(5, .int 0), (6, .int (nI n)), (4, .int v), (0, .ref (ad 2000)), (1, .int mm), (2, .int r), (3, .int t)]) hx hb dX6_valueAt_103 hl (by decide) rfl (fun ls hl => ?_)
              refine lv_iload hx hb dX6_valueAt_105 (lv_at hl 0 rfl) ?_
              refine lv_if_eq (tgt := 120) hx hb dX6_valueAt_107 (by decide) (fun _ => ?_) (fun c9 => absurd (rfl) c9)
              refine lv_iload hx hb dX6_valueAt_120 (lv_at hl 2 rfl) ?_
              refine lv_istore (lv' := [(4, .int v), (5, .int 0), (6, .int (nI n)), (0, .ref (ad 2000)), (1, .int mm), (2, .int r), (3, .int t)]) hx hb dX6_valueAt_122 hl (by decide) rfl (fun ls hl => ?_)
              refine lv_aload_n hx hb dX6_valueAt_124 rfl (lv_at hl 3 rfl) ?_
              refine lv_aload_n hx hb dX6_valueAt_125 rfl (lv_at hl 3 rfl) ?_
              refine kk_get hx hb hts hown hE hW (show w1 2000 = some (.inr (7, [.ref (ad 2001), .int (S 10 0), .int (S 11 0), .int (S 12 0), .ref (ad 2002), .ref (ad 2003), .ref (ad 2004), .int (S 13 0), .ref (ad 2005), .ref (ad 2006), .ref (ad 2007), .ref (ad 2008), .int (S 14 0), .ref (ad 2009), .ref (ad 2010), .int (S 15 0), .int (z), .int (S 17 0)])) from hM.o) rfl hiRX6 16 (by decide) (hts (.fieldLink RX6 98 "UndoCellarModel" "isLate" "Z") (by decide +kernel)) (fun _ h9 => h9) rfl dX6_valueAt_126 ?_
              refine W_join (P := fun x => x = z) (pj := 151) (rj := [.ref (ad 2000)]) (lj := ls) (fun x9 hz9 => ?_) (fun J151 => ?_)
              · rw [hz9]
                refine kk_put hx hb hts hown hE hW (show w1 2000 = some (.inr (7, [.ref (ad 2001), .int (S 10 0), .int (S 11 0), .int (S 12 0), .ref (ad 2002), .ref (ad 2003), .ref (ad 2004), .int (S 13 0), .ref (ad 2005), .ref (ad 2006), .ref (ad 2007), .ref (ad 2008), .int (S 14 0), .ref (ad 2009), .ref (ad 2010), .int (S 15 0), .int (z), .int (S 17 0)])) from hM.o) rfl hiRX6 tyX6 tyX6_ok nmX6 16 (by decide) (hts (.fieldLink RX6 98 "UndoCellarModel" "isLate" "Z") (by decide +kernel)) (fun _ h9 => h9) rfl (ty := tyX6 16) (tyX6_ok 16 (by decide)) (by rcases hz with rfl | rfl <;> rfl) (by rcases hz with rfl | rfl <;> rfl) (Nat.le_of_ble_eq_true rfl) dX6_valueAt_151 (fun H5 locs w3 e4 hW => ?_)
                have hM := hM.s16 e4
                rw [sS_sS] at hM
                refine lv_iinc (v := nI n - 1) (lv' := [(6, .int (nI n - 1)), (4, .int v), (5, .int 0), (0, .ref (ad 2000)), (1, .int mm), (2, .int r), (3, .int t)]) hx hb dX6_valueAt_154 hl (k := 2) rfl (i_sub1 _) (by decide) rfl (fun ls hl => ?_)
                refine lv_goto (tgt := 24) hx hb dX6_valueAt_157 (by decide) ?_
                refine lv_iload hx hb dX6_valueAt_24 (lv_at hl 0 rfl) ?_
                refine lv_if_lt (tgt := 160) hx hb dX6_valueAt_26 (by decide) (fun c6 => ?_) (fun c6 => ?_)
                · refine lv_iload hx hb dX6_valueAt_160 (lv_at hl 1 rfl) ?_
                  exact ke_i hx hb hr hlocks (Nat.le_of_ble_eq_true rfl) (Nat.le_of_ble_eq_true rfl) dX6_valueAt_162 hW (⟨by rw [← he, show vaL S mm r t (n + 1) v z = (v, z) from (if_pos ⟨c1, c2⟩).trans (if_pos hs)], rfl, by rw [← he, show vaL S mm r t (n + 1) v z = (v, z) from (if_pos ⟨c1, c2⟩).trans (if_pos hs)]; exact hM⟩)
                · refine lv_iload hx hb dX6_valueAt_29 (lv_at hl 2 rfl) ?_
                  refine lv_if_eq (tgt := 160) hx hb dX6_valueAt_31 (by decide) (fun _ => ?_) (fun c9 => absurd (rfl) c9)
                  refine lv_iload hx hb dX6_valueAt_160 (lv_at hl 1 rfl) ?_
                  exact ke_i hx hb hr hlocks (Nat.le_of_ble_eq_true rfl) (Nat.le_of_ble_eq_true rfl) dX6_valueAt_162 hW (⟨by rw [← he, show vaL S mm r t (n + 1) v z = (v, z) from (if_pos ⟨c1, c2⟩).trans (if_pos hs)], rfl, by rw [← he, show vaL S mm r t (n + 1) v z = (v, z) from (if_pos ⟨c1, c2⟩).trans (if_pos hs)]; exact hM⟩)
              · refine lv_if_ne (tgt := 146) hx hb dX6_valueAt_129 (by decide) (fun c7 => ?_) (fun c7 => ?_)
                · refine lv_iconst (v := 1) hx hb dX6_valueAt_146 (by decide) ?_
                  refine lv_goto (tgt := 151) hx hb dX6_valueAt_147 (by decide) ?_
                  exact J151 _ ((hz.resolve_left c7).symm)
                · refine lv_iload hx hb dX6_valueAt_132 (lv_at hl 1 rfl) ?_
                  refine lv_if_eq (tgt := 150) hx hb dX6_valueAt_134 (by decide) (fun _ => ?_) (fun c9 => absurd (rfl) c9)
                  refine lv_iconst (v := 0) hx hb dX6_valueAt_150 (by decide) ?_
                  exact J151 _ (c7.symm)
            · refine lv_istore (lv' := [(5, .int 1), (6, .int (nI n)), (4, .int v), (0, .ref (ad 2000)), (1, .int mm), (2, .int r), (3, .int t)]) hx hb dX6_valueAt_103 hl (by decide) rfl (fun ls hl => ?_)
              refine lv_iload hx hb dX6_valueAt_105 (lv_at hl 0 rfl) ?_
              refine lv_if_eq (tgt := 120) hx hb dX6_valueAt_107 (by decide) (fun c9 => absurd c9 (by decide)) (fun _ => ?_)
              refine lv_aload_n hx hb dX6_valueAt_110 rfl (lv_at hl 3 rfl) ?_
              refine kk_get hx hb hts hown hE hW (show w1 2000 = some (.inr (7, [.ref (ad 2001), .int (S 10 0), .int (S 11 0), .int (S 12 0), .ref (ad 2002), .ref (ad 2003), .ref (ad 2004), .int (S 13 0), .ref (ad 2005), .ref (ad 2006), .ref (ad 2007), .ref (ad 2008), .int (S 14 0), .ref (ad 2009), .ref (ad 2010), .int (S 15 0), .int (z), .int (S 17 0)])) from hM.o) rfl hiRX6 10 (by decide) (hts (.fieldLink RX6 32 "UndoCellarModel" "ahead" "[I") (by decide +kernel)) (fun _ h9 => h9) rfl dX6_valueAt_111 ?_
              refine lv_iload hx hb dX6_valueAt_114 (lv_at hl 1 rfl) ?_
              refine kk_iald hx hb hE hW (show w1 2007 = some (.inl (D.1 100, 2000, .inl (S 6))) from hM.a6) (vp_in_nI (by omega) (by omega)) dX6_valueAt_116 ?_
              rw [nI_clamp (show n < 2 ^ 31 by omega)]
              refine lv_goto (tgt := 122) hx hb dX6_valueAt_117 (by decide) ?_
              refine lv_istore (lv' := [(4, .int (S 6 n)), (5, .int 1), (6, .int (nI n)), (0, .ref (ad 2000)), (1, .int mm), (2, .int r), (3, .int t)]) hx hb dX6_valueAt_122 hl (by decide) rfl (fun ls hl => ?_)
              refine lv_aload_n hx hb dX6_valueAt_124 rfl (lv_at hl 3 rfl) ?_
              refine lv_aload_n hx hb dX6_valueAt_125 rfl (lv_at hl 3 rfl) ?_
              refine kk_get hx hb hts hown hE hW (show w1 2000 = some (.inr (7, [.ref (ad 2001), .int (S 10 0), .int (S 11 0), .int (S 12 0), .ref (ad 2002), .ref (ad 2003), .ref (ad 2004), .int (S 13 0), .ref (ad 2005), .ref (ad 2006), .ref (ad 2007), .ref (ad 2008), .int (S 14 0), .ref (ad 2009), .ref (ad 2010), .int (S 15 0), .int (z), .int (S 17 0)])) from hM.o) rfl hiRX6 16 (by decide) (hts (.fieldLink RX6 98 "UndoCellarModel" "isLate" "Z") (by decide +kernel)) (fun _ h9 => h9) rfl dX6_valueAt_126 ?_
              refine W_join (P := fun x => x = (if z = 0 then bI (nI n < S 14 0) else 1)) (pj := 151) (rj := [.ref (ad 2000)]) (lj := ls) (fun x9 hz9 => ?_) (fun J151 => ?_)
              · subst hz9
                have hz : (if z = 0 then bI (nI n < S 14 0) else 1) = 0 ∨ (if z = 0 then bI (nI n < S 14 0) else 1) = 1 := by
                  by_cases q : z = 0
                  · rw [if_pos q]; exact bI_01
                  · rw [if_neg q]; exact Or.inr rfl
                refine kk_put hx hb hts hown hE hW (show w1 2000 = some (.inr (7, [.ref (ad 2001), .int (S 10 0), .int (S 11 0), .int (S 12 0), .ref (ad 2002), .ref (ad 2003), .ref (ad 2004), .int (S 13 0), .ref (ad 2005), .ref (ad 2006), .ref (ad 2007), .ref (ad 2008), .int (S 14 0), .ref (ad 2009), .ref (ad 2010), .int (S 15 0), .int (z), .int (S 17 0)])) from hM.o) rfl hiRX6 tyX6 tyX6_ok nmX6 16 (by decide) (hts (.fieldLink RX6 98 "UndoCellarModel" "isLate" "Z") (by decide +kernel)) (fun _ h9 => h9) rfl (ty := tyX6 16) (tyX6_ok 16 (by decide)) (by rcases hz with h | h <;> rw [h] <;> rfl) (by rcases hz with h | h <;> rw [h] <;> rfl) (Nat.le_of_ble_eq_true rfl) dX6_valueAt_151 (fun H10 locs w8 e9 hW => ?_)
                have hM := hM.s16 e9
                rw [sS_sS] at hM
                refine lv_iinc (v := nI n - 1) (lv' := [(6, .int (nI n - 1)), (4, .int (S 6 n)), (5, .int 1), (0, .ref (ad 2000)), (1, .int mm), (2, .int r), (3, .int t)]) hx hb dX6_valueAt_154 hl (k := 2) rfl (i_sub1 _) (by decide) rfl (fun ls hl => ?_)
                refine lv_goto (tgt := 24) hx hb dX6_valueAt_157 (by decide) ?_
                exact ih _ _ _ _ _ (by omega) hz (by rw [← he]; exact ((if_pos ⟨c1, c2⟩).trans (if_neg hs)).symm) hM hW ls (lv_sub hl [0, 2, 1, 3, 4, 5, 6] rfl)
              · refine lv_if_ne (tgt := 146) hx hb dX6_valueAt_129 (by decide) (fun c11 => ?_) (fun c11 => ?_)
                · refine lv_iconst (v := 1) hx hb dX6_valueAt_146 (by decide) ?_
                  refine lv_goto (tgt := 151) hx hb dX6_valueAt_147 (by decide) ?_
                  exact J151 _ ((if_neg c11).symm)
                · refine lv_iload hx hb dX6_valueAt_132 (lv_at hl 1 rfl) ?_
                  refine lv_if_eq (tgt := 150) hx hb dX6_valueAt_134 (by decide) (fun c9 => absurd c9 (by decide)) (fun _ => ?_)
                  refine lv_iload hx hb dX6_valueAt_137 (lv_at hl 2 rfl) ?_
                  refine lv_aload_n hx hb dX6_valueAt_139 rfl (lv_at hl 3 rfl) ?_
                  refine kk_get hx hb hts hown hE hW (show w1 2000 = some (.inr (7, [.ref (ad 2001), .int (S 10 0), .int (S 11 0), .int (S 12 0), .ref (ad 2002), .ref (ad 2003), .ref (ad 2004), .int (S 13 0), .ref (ad 2005), .ref (ad 2006), .ref (ad 2007), .ref (ad 2008), .int (S 14 0), .ref (ad 2009), .ref (ad 2010), .int (S 15 0), .int (z), .int (S 17 0)])) from hM.o) rfl hiRX6 12 (by decide) (hts (.fieldLink RX6 58 "UndoCellarModel" "dropped" "I") (by decide +kernel)) (fun _ h9 => h9) rfl dX6_valueAt_140 ?_
                  refine lv_icmp_ge (tgt := 150) hx hb dX6_valueAt_143 (by decide) (fun c12 => ?_) (fun c12 => ?_)
                  · refine lv_iconst (v := 0) hx hb dX6_valueAt_150 (by decide) ?_
                    exact J151 _ (by rw [if_pos c11]; exact (bI_0 (Int32.not_lt.mpr c12)).symm)
                  · refine lv_iconst (v := 1) hx hb dX6_valueAt_146 (by decide) ?_
                    refine lv_goto (tgt := 151) hx hb dX6_valueAt_147 (by decide) ?_
                    exact J151 _ (by rw [if_pos c11]; exact (bI_1 (Int32.not_le.mp c12)).symm)
          · refine lv_aload_n hx hb dX6_valueAt_55 rfl (lv_at hl 3 rfl) ?_
            refine kk_get hx hb hts hown hE hW (show w1 2000 = some (.inr (7, [.ref (ad 2001), .int (S 10 0), .int (S 11 0), .int (S 12 0), .ref (ad 2002), .ref (ad 2003), .ref (ad 2004), .int (S 13 0), .ref (ad 2005), .ref (ad 2006), .ref (ad 2007), .ref (ad 2008), .int (S 14 0), .ref (ad 2009), .ref (ad 2010), .int (S 15 0), .int (z), .int (S 17 0)])) from hM.o) rfl hiRX6 8 (by decide) (hts (.fieldLink RX6 26 "UndoCellarModel" "by" "[I") (by decide +kernel)) (fun _ h9 => h9) rfl dX6_valueAt_56 ?_
            refine lv_iload hx hb dX6_valueAt_59 (lv_at hl 0 rfl) ?_
            refine kk_iald hx hb hE hW (show w1 2005 = some (.inl (D.1 100, 2000, .inl (S 4))) from hM.a4) (vp_in_nI (by omega) (by omega)) dX6_valueAt_61 ?_
            rw [nI_clamp (show n < 2 ^ 31 by omega)]
            refine lv_iload_n hx hb dX6_valueAt_62 rfl (lv_at hl 6 rfl) ?_
            refine lv_icmp_eq (tgt := 102) hx hb dX6_valueAt_63 (by decide) (fun c13 => ?_) (fun c13 => ?_)
            · refine lv_iconst (v := 0) hx hb dX6_valueAt_102 (by decide) ?_
              exact J103 _ (Or.inl ⟨rfl, Or.inl c13⟩)
            · refine lv_aload_n hx hb dX6_valueAt_66 rfl (lv_at hl 3 rfl) ?_
              refine kk_get hx hb hts hown hE hW (show w1 2000 = some (.inr (7, [.ref (ad 2001), .int (S 10 0), .int (S 11 0), .int (S 12 0), .ref (ad 2002), .ref (ad 2003), .ref (ad 2004), .int (S 13 0), .ref (ad 2005), .ref (ad 2006), .ref (ad 2007), .ref (ad 2008), .int (S 14 0), .ref (ad 2009), .ref (ad 2010), .int (S 15 0), .int (z), .int (S 17 0)])) from hM.o) rfl hiRX6 4 (by decide) (hts (.fieldLink RX6 17 "UndoCellarModel" "state" "[I") (by decide +kernel)) (fun _ h9 => h9) rfl dX6_valueAt_67 ?_
              refine lv_aload_n hx hb dX6_valueAt_70 rfl (lv_at hl 3 rfl) ?_
              refine kk_get hx hb hts hown hE hW (show w1 2000 = some (.inr (7, [.ref (ad 2001), .int (S 10 0), .int (S 11 0), .int (S 12 0), .ref (ad 2002), .ref (ad 2003), .ref (ad 2004), .int (S 13 0), .ref (ad 2005), .ref (ad 2006), .ref (ad 2007), .ref (ad 2008), .int (S 14 0), .ref (ad 2009), .ref (ad 2010), .int (S 15 0), .int (z), .int (S 17 0)])) from hM.o) rfl hiRX6 8 (by decide) (hts (.fieldLink RX6 26 "UndoCellarModel" "by" "[I") (by decide +kernel)) (fun _ h9 => h9) rfl dX6_valueAt_71 ?_
              refine lv_iload hx hb dX6_valueAt_74 (lv_at hl 0 rfl) ?_
              refine kk_iald hx hb hE hW (show w1 2005 = some (.inl (D.1 100, 2000, .inl (S 4))) from hM.a4) (vp_in_nI (by omega) (by omega)) dX6_valueAt_76 ?_
              rw [nI_clamp (show n < 2 ^ 31 by omega)]
              refine kk_iald hx hb hE hW (show w1 2002 = some (.inl (D.1 100, 60, .inl (S 1))) from hM.a1) (hby n (by omega)) dX6_valueAt_77 ?_
              refine lv_iconst (v := 1) hx hb dX6_valueAt_78 (by decide) ?_
              refine lv_icmp_ne (tgt := 98) hx hb dX6_valueAt_79 (by decide) (fun c14 => ?_) (fun c14 => ?_)
              · refine lv_iconst (v := 1) hx hb dX6_valueAt_98 (by decide) ?_
                refine lv_goto (tgt := 103) hx hb dX6_valueAt_99 (by decide) ?_
                exact J103 _ (Or.inr ⟨rfl, fun h => h.elim c13 (fun h => c14 h.1)⟩)
              · refine lv_aload_n hx hb dX6_valueAt_82 rfl (lv_at hl 3 rfl) ?_
                refine kk_get hx hb hts hown hE hW (show w1 2000 = some (.inr (7, [.ref (ad 2001), .int (S 10 0), .int (S 11 0), .int (S 12 0), .ref (ad 2002), .ref (ad 2003), .ref (ad 2004), .int (S 13 0), .ref (ad 2005), .ref (ad 2006), .ref (ad 2007), .ref (ad 2008), .int (S 14 0), .ref (ad 2009), .ref (ad 2010), .int (S 15 0), .int (z), .int (S 17 0)])) from hM.o) rfl hiRX6 6 (by decide) (hts (.fieldLink RX6 23 "UndoCellarModel" "committedAt" "[I") (by decide +kernel)) (fun _ h9 => h9) rfl dX6_valueAt_83 ?_
                refine lv_aload_n hx hb dX6_valueAt_86 rfl (lv_at hl 3 rfl) ?_
                refine kk_get hx hb hts hown hE hW (show w1 2000 = some (.inr (7, [.ref (ad 2001), .int (S 10 0), .int (S 11 0), .int (S 12 0), .ref (ad 2002), .ref (ad 2003), .ref (ad 2004), .int (S 13 0), .ref (ad 2005), .ref (ad 2006), .ref (ad 2007), .ref (ad 2008), .int (S 14 0), .ref (ad 2009), .ref (ad 2010), .int (S 15 0), .int (z), .int (S 17 0)])) from hM.o) rfl hiRX6 8 (by decide) (hts (.fieldLink RX6 26 "UndoCellarModel" "by" "[I") (by decide +kernel)) (fun _ h9 => h9) rfl dX6_valueAt_87 ?_
                refine lv_iload hx hb dX6_valueAt_90 (lv_at hl 0 rfl) ?_
                refine kk_iald hx hb hE hW (show w1 2005 = some (.inl (D.1 100, 2000, .inl (S 4))) from hM.a4) (vp_in_nI (by omega) (by omega)) dX6_valueAt_92 ?_
                rw [nI_clamp (show n < 2 ^ 31 by omega)]
                refine kk_iald hx hb hE hW (show w1 2004 = some (.inl (D.1 100, 60, .inl (S 3))) from hM.a3) (hby n (by omega)) dX6_valueAt_93 ?_
                refine lv_iload_n hx hb dX6_valueAt_94 rfl (lv_at hl 4 rfl) ?_
                refine lv_icmp_le (tgt := 102) hx hb dX6_valueAt_95 (by decide) (fun c15 => ?_) (fun c15 => ?_)
                · refine lv_iconst (v := 0) hx hb dX6_valueAt_102 (by decide) ?_
                  exact J103 _ (Or.inl ⟨rfl, Or.inr ⟨c14, c15⟩⟩)
                · refine lv_iconst (v := 1) hx hb dX6_valueAt_98 (by decide) ?_
                  refine lv_goto (tgt := 103) hx hb dX6_valueAt_99 (by decide) ?_
                  exact J103 _ (Or.inr ⟨rfl, fun h => h.elim c13 (fun h => c15 h.2)⟩)
  refine lv_aload_n hx hb dX6_valueAt_0 rfl (lv_at hl 0 rfl) ?_
  refine kk_get hx hb hts hown hE hW hM.o rfl hiRX6 0 (by decide) (hts (.fieldLink RX6 7 "UndoCellarModel" "value" "[I") (by decide +kernel)) (fun _ h9 => h9) rfl dX6_valueAt_1 ?_
  refine lv_iload_n hx hb dX6_valueAt_4 rfl (lv_at hl 2 rfl) ?_
  refine kk_iald hx hb hE hW hM.a0 hr12 dX6_valueAt_5 ?_
  refine lv_istore (lv' := [(4, .int (S 0 (nv r))), (0, .ref (ad 2000)), (1, .int mm), (2, .int r), (3, .int t)]) hx hb dX6_valueAt_6 hl (by decide) rfl (fun ls hl => ?_)
  refine lv_aload_n hx hb dX6_valueAt_8 rfl (lv_at hl 1 rfl) ?_
  refine lv_iconst (v := 0) hx hb dX6_valueAt_9 (by decide) ?_
  refine kk_put hx hb hts hown hE hW hM.o rfl hiRX6 tyX6 tyX6_ok nmX6 16 (by decide) (hts (.fieldLink RX6 98 "UndoCellarModel" "isLate" "Z") (by decide +kernel)) (fun _ h9 => h9) rfl (ty := tyX6 16) (tyX6_ok 16 (by decide)) rfl rfl (Nat.le_of_ble_eq_true rfl) dX6_valueAt_10 (fun H18 locs w16 e17 hW => ?_)
  have hM := hM.s16 e17
  refine lv_iconst (v := 1) hx hb dX6_valueAt_13 (by decide) ?_
  refine lv_istore (lv' := [(5, .int 1), (4, .int (S 0 (nv r))), (0, .ref (ad 2000)), (1, .int mm), (2, .int r), (3, .int t)]) hx hb dX6_valueAt_14 hl (by decide) rfl (fun ls hl => ?_)
  refine lv_aload_n hx hb dX6_valueAt_16 rfl (lv_at hl 2 rfl) ?_
  refine kk_get hx hb hts hown hE hW (show w16 2000 = some (.inr (7, [.ref (ad 2001), .int (S 10 0), .int (S 11 0), .int (S 12 0), .ref (ad 2002), .ref (ad 2003), .ref (ad 2004), .int (S 13 0), .ref (ad 2005), .ref (ad 2006), .ref (ad 2007), .ref (ad 2008), .int (S 14 0), .ref (ad 2009), .ref (ad 2010), .int (S 15 0), .int (0), .int (S 17 0)])) from hM.o) rfl hiRX6 7 (by decide) (hts (.fieldLink RX6 55 "UndoCellarModel" "changes" "I") (by decide +kernel)) (fun _ h9 => h9) rfl dX6_valueAt_17 ?_
  refine lv_iconst (v := 1) hx hb dX6_valueAt_20 (by decide) ?_
  refine lv_isub hx hb dX6_valueAt_21 ?_
  refine lv_istore (lv' := [(6, .int ((S 13 0) - 1)), (5, .int 1), (4, .int (S 0 (nv r))), (0, .ref (ad 2000)), (1, .int mm), (2, .int r), (3, .int t)]) hx hb dX6_valueAt_22 hl (by decide) rfl (fun ls hl => ?_)
  exact loop nC (S 0 (nv r)) 0 _ _ _ (Nat.le_refl _) (Or.inl rfl) (by unfold vaV; rw [hnv]) hM hW ls (by rw [hC] at hl; exact hl)

