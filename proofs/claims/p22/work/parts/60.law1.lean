/-! the law's methods: what draws, asks, looks -/
set_option maxHeartbeats 4000000 in
set_option maxRecDepth 100000 in
/-- k_L_draw -/
theorem k_L_draw (l : Launch) (hnt : l.stackTraces = false) (D : va_G) (A : Nat → Prop) (ad : Nat → Nat) (w : kWd) (b L : Nat) (xs : Nat → Int32) (hL : L < 2 ^ 31) (k q : Nat) (hk : k < 2 ^ 31) (h0 : 0 < q) (hq : q < 2 ^ 31) : Met l yL_draw wsL_draw ({ frames := 0, cells := 0, slots := 0, locals := 0 }) (kPx D A [.ref b, .int (nI k), .int (nI q)] ad w b L xs) (kQi D A (fun v ad' w' => (∃ r, r < q ∧ v = nI r) ∧ ad' = ad ∧ w' = w)) 0 0 A := by
  refine Met.ofW (cc := cL_draw) (maxL := 4) (ret := (some (.int))) (by decide) rfl ?_
  intro p e s m args below meth c s₁ B hml hv
  obtain ⟨rfl, ⟨hE, hW0, hI0, hA⟩, hX, hbl, hbA⟩ := hv
  have hx := B.exec
  have hb := B.bytes
  have hr := B.returns
  have hts := atoms_spec (ws := wsL_draw) B.pre
  have hown : s.vm.findClass RL = some m.cls := findClass_of_methodNamed B.named
  have hlocks := B.notSynchronized
  have hW : kS D A s.heap ad w s.heap [] := ⟨hW0, hI0, va_S.rf, hA⟩
  have hl := lv_entry ([.ref b, .int (nI k), .int (nI q)]) (n := 4) (Nat.le_of_ble_eq_true rfl)
  rw [lg_entry_eq]
  generalize (lg_sl ([.ref b, .int (nI k), .int (nI q)]) ++ List.replicate (4 - (lg_sl ([.ref b, .int (nI k), .int (nI q)])).length) Slot.unset).toArray = ls at hl ⊢
  have hl : lv_has ls 4 [(0, .ref b), (1, .int (nI k)), (2, .int (nI q))] := hl
  refine lv_iload_n hx hb dL_draw_0 rfl (lv_at hl 1 rfl) ?_
  refine lv_aload_n hx hb dL_draw_1 rfl (lv_at hl 0 rfl) ?_
  refine va_slen hx hb hX hbl hbA hW.2.2.1 dL_draw_2 ?_
  refine W.eq (g2 := F0 m 3 ls [.int (nI L), .int (nI k)]) rfl ?_
  refine W_joinC (D := D) (A := A) (w := w) (ad := ad) (P := fun _ => True) (pj := 23) (rj := []) (lj := ls) (c1 := 0 + 0) (s1 := 0 + 0) (fun v9 H1 locs hv9 hW => ?_) (fun J23 => ?_)
  · refine lv_istore_n (lv' := [(3, .int (v9)), (0, .ref b), (1, .int (nI k)), (2, .int (nI q))]) hx hb dL_draw_23 rfl hl (by decide) rfl (fun ls hl => ?_)
    refine lv_iload_n hx hb dL_draw_24 rfl (lv_at hl 0 rfl) ?_
    refine lv_ldc (v := 2147483647) hx hb hown (hts (.constant RL 9 (2147483647)) (by decide +kernel)) dL_draw_25 ?_
    refine lv_iand hx hb dL_draw_27 ?_
    obtain ⟨j, hj, ej⟩ := pk_andE v9 (m := 2147483647) 31 (by decide)
    rw [ej]
    refine lv_iload_n hx hb dL_draw_28 rfl (lv_at hl 3 rfl) ?_
    refine lv_irem hx hb dL_draw_29 (nI_ne0 h0 hq) ?_
    rw [show nI j - nI j / nI q * nI q = nI (j % q) from pk_rem (by omega) h0 hq]
    exact ke_i hx hb hr hlocks (show 0 + 0 ≤ 0 by omega) (show 0 + 0 ≤ 0 by omega) dL_draw_30 hW (⟨⟨j % q, Nat.mod_lt _ h0, rfl⟩, rfl, rfl⟩)
  · refine lv_icmp_ge (tgt := 12) hx hb dL_draw_3 (by decide) (fun c1 => ?_) (fun c1 => ?_)
    · refine lv_ldc (v := 869788101) hx hb hown (hts (.constant RL 7 (869788101)) (by decide +kernel)) dL_draw_12 ?_
      refine lv_iload_n hx hb dL_draw_14 rfl (lv_at hl 1 rfl) ?_
      refine lv_sipush (v := 229) hx hb dL_draw_15 (by decide) ?_
      refine lv_iadd hx hb dL_draw_18 ?_
      refine lv_imul hx hb dL_draw_19 ?_
      refine lv_ldc (v := 1503773687) hx hb hown (hts (.constant RL 8 (1503773687)) (by decide +kernel)) dL_draw_20 ?_
      refine lv_iadd hx hb dL_draw_22 ?_
      exact J23 _ _ _ _ _ (by omega) (by omega) (trivial) hW
    · have hkL : k < L := by
        rcases Nat.lt_or_ge k L with h | h
        · exact h
        · exact absurd (nI_le h hk) c1
      refine lv_aload_n hx hb dL_draw_6 rfl (lv_at hl 0 rfl) ?_
      refine lv_iload_n hx hb dL_draw_7 rfl (lv_at hl 1 rfl) ?_
      refine va_sld hx hb hX hbl hbA hW.2.2.1 (vp_in_nI hkL hL) dL_draw_8 ?_
      refine lv_goto (tgt := 23) hx hb dL_draw_9 (by decide) ?_
      exact J23 _ _ _ _ _ (by omega) (by omega) (trivial) hW

set_option maxHeartbeats 4000000 in
set_option maxRecDepth 100000 in
/-- k_L_isActive -/
theorem k_L_isActive (l : Launch) (hnt : l.stackTraces = false) (D : va_G) (A : Nat → Prop) (ad : Nat → Nat) (w : kWd) (S : St) (nT nC nD nM nZ : Nat) (hN : SN S nT nC nD nM nZ) (aF : Nat → Int32) (hA1 : w 2101 = some (.inl (D.1 100, 60, .inl aF))) (hAF : AF S nT aF) (x : Int32) (hxt : x = -1 ∨ ∃ t, t < nT ∧ x = nI t) : Met l yL_isActive wsL_isActive ({ frames := 0, cells := 0, slots := 0, locals := 0 }) (kPc D A [.ref (ad 2101), .int x] ad w) (kQi D A (fun v ad' w' => v = isA S x ∧ ad' = ad ∧ w' = w)) 0 0 A := by
  refine Met.ofW (cc := cL_isActive) (maxL := 2) (ret := (some (.boolean))) (by decide) rfl ?_
  intro p e s m args below meth c s₁ B hml hv
  obtain ⟨rfl, hE, hW0, hI0, hA⟩ := hv
  have hx := B.exec
  have hb := B.bytes
  have hr := B.returns
  have hts := atoms_spec (ws := wsL_isActive) B.pre
  have hown : s.vm.findClass RL = some m.cls := findClass_of_methodNamed B.named
  have hlocks := B.notSynchronized
  have hW : kS D A s.heap ad w s.heap [] := ⟨hW0, hI0, va_S.rf, hA⟩
  have hl := lv_entry ([.ref (ad 2101), .int x]) (n := 2) (Nat.le_of_ble_eq_true rfl)
  rw [lg_entry_eq]
  generalize (lg_sl ([.ref (ad 2101), .int x]) ++ List.replicate (2 - (lg_sl ([.ref (ad 2101), .int x])).length) Slot.unset).toArray = ls at hl ⊢
  have hl : lv_has ls 2 [(0, .ref (ad 2101)), (1, .int x)] := hl
  have h60 := hN.2.2.2.2.2.1
  rcases hxt with rfl | ⟨t, ht, rfl⟩
  · refine lv_iload_n hx hb dL_isActive_0 rfl (lv_at hl 1 rfl) ?_
    refine lv_if_lt (tgt := 16) hx hb dL_isActive_1 (by decide) (fun _ => ?_) (fun c9 => absurd (by decide) c9)
    refine lv_iconst (v := 0) hx hb dL_isActive_16 (by decide) ?_
    exact ke_z hx hb hr hlocks (show 0 ≤ 0 by omega) (show 0 ≤ 0 by omega) dL_isActive_17 (by first | exact Or.inl rfl | exact Or.inr rfl | assumption) hW (⟨isA_m1.symm, rfl, rfl⟩)
  · refine lv_iload_n hx hb dL_isActive_0 rfl (lv_at hl 1 rfl) ?_
    refine lv_if_lt (tgt := 16) hx hb dL_isActive_1 (by decide) (fun c9 => absurd c9 (nI_pos (by omega))) (fun _ => ?_)
    refine lv_aload_n hx hb dL_isActive_4 rfl (lv_at hl 0 rfl) ?_
    refine lv_iload_n hx hb dL_isActive_5 rfl (lv_at hl 1 rfl) ?_
    refine kk_iald hx hb hE hW hA1 (vp_in_nI (show t < 60 by omega) (by decide)) dL_isActive_6 ?_
    rw [show aF (nv (nI t)) = aF t from by rw [show nv (nI t) = t from nI_clamp (by omega)]]
    refine lv_iconst (v := 4) hx hb dL_isActive_7 (by decide) ?_
    refine lv_irem hx hb dL_isActive_8 (by decide) ?_
    rw [show aF t - aF t / 4 * 4 = S 1 t from hAF.rem hN ht]
    refine lv_if_ne (tgt := 16) hx hb dL_isActive_9 (by decide) (fun c1 => ?_) (fun c1 => ?_)
    · refine lv_iconst (v := 0) hx hb dL_isActive_16 (by decide) ?_
      exact ke_z hx hb hr hlocks (show 0 ≤ 0 by omega) (show 0 ≤ 0 by omega) dL_isActive_17 (by first | exact Or.inl rfl | exact Or.inr rfl | assumption) hW (⟨by rw [isA_t (by omega)]; exact (bI_0 c1).symm, rfl, rfl⟩)
    · refine lv_iconst (v := 1) hx hb dL_isActive_12 (by decide) ?_
      refine lv_goto (tgt := 17) hx hb dL_isActive_13 (by decide) ?_
      exact ke_z hx hb hr hlocks (show 0 ≤ 0 by omega) (show 0 ≤ 0 by omega) dL_isActive_17 (by first | exact Or.inl rfl | exact Or.inr rfl | assumption) hW (⟨by rw [isA_t (by omega)]; exact (bI_1 c1).symm, rfl, rfl⟩)

set_option maxHeartbeats 4000000 in
set_option maxRecDepth 100000 in
/-- k_asks_begin -/
theorem k_asks_begin (l : Launch) (hnt : l.stackTraces = false) (D : va_G) (A : Nat → Prop) (ad : Nat → Nat) (w : kWd) (S : St) (nT nC nD nM nZ : Nat) (hC : CW D S ad w nT nC) (hN : SN S nT nC nD nM nZ) (a b9 x9 : Int32) : Met l yL_asks wsL_asks ({ frames := 8, cells := 8, slots := 2060, locals := 252 }) (kPc D A [.ref (ad 0), .int 0, .int a, .int b9, .int x9] ad w) (kQi D A (fun v ad' w' => (v = S 12 0 ∧ bgK S = 0 ∧ CW D (bgM S) ad' w' (nT + 1) nC ∧ ad' 0 = ad 0 ∧ FrC ad w ad' w') ∨ (((v = (-9000008) ∧ bgK S = 1)) ∧ ad' = ad ∧ w' = w))) 8 2060 A := by
  refine va_MetW (hh := [(0, 115, 116, 43), (0, 115, 121, 46), (0, 115, 126, 49), (0, 115, 131, 52)]) (cc := cL_asks) (maxL := 6) (ret := (some (.int))) (by decide) rfl ?_
  intro p e s m args below meth c s₁ B hml hv
  obtain ⟨rfl, hE, hW0, hI0, hA⟩ := hv
  have hx := B.exec
  have hb := B.bytes
  have hr := B.returns
  have hts := atoms_spec (ws := wsL_asks) B.pre
  have hown : s.vm.findClass RL = some m.cls := findClass_of_methodNamed B.named
  have hlocks := B.notSynchronized
  have hW : kS D A s.heap ad w s.heap [] := ⟨hW0, hI0, va_S.rf, hA⟩
  have hl := lv_entry ([.ref (ad 0), .int 0, .int a, .int b9, .int x9]) (n := 6) (Nat.le_of_ble_eq_true rfl)
  rw [lg_entry_eq]
  generalize (lg_sl ([.ref (ad 0), .int 0, .int a, .int b9, .int x9]) ++ List.replicate (6 - (lg_sl ([.ref (ad 0), .int 0, .int a, .int b9, .int x9])).length) Slot.unset).toArray = ls at hl ⊢
  have hl : lv_has ls 6 [(0, .ref (ad 0)), (1, .int 0), (2, .int a), (3, .int b9), (4, .int x9)] := hl
  have htab : c.exceptionTable.toList = tableOf [(0, 115, 116, 43), (0, 115, 121, 46), (0, 115, 126, 49), (0, 115, 131, 52)] := vx_table (x := yL_asks) B (hts (.codeWith yL_asks cL_asks 6 (some .int) [(0, 115, 116, 43), (0, 115, 121, 46), (0, 115, 126, 49), (0, 115, 131, 52)]) (by decide +kernel))
  refine lv_iload_n hx hb dL_asks_0 rfl (lv_at hl 1 rfl) ?_
  refine lv_if_ne (tgt := 11) hx hb dL_asks_1 (by decide) (fun c9 => absurd (by decide) c9) (fun _ => ?_)
  refine lv_aload_n hx hb dL_asks_4 rfl (lv_at hl 0 rfl) ?_
  refine kx_i (vx_runV (As := []) (rest := []) ⟨hx, hb, hml, hown, hts⟩ (k_X5_begin l hnt D A ad w S nT nC nD nM nZ hC hN ) (cwV 0 hts gL_asks_X5_begin rfl rfl rfl (by decide +kernel) ⟨Nat.le_of_ble_eq_true rfl, Nat.le_of_ble_eq_true rfl⟩) (kV hE hW hC.u rfl _) rfl rfl hl.1 rfl (lv_room (Nat.le_of_ble_eq_true rfl)) dL_asks_5 ⟨Nat.le_of_ble_eq_true rfl, Nat.le_of_ble_eq_true rfl⟩) hW (fun E ce q9 H locs hpx hW h1 h2 h3 => ?_) (fun r4 ad1 w2 H5 locs hp3 hW => ?_)
  · obtain ⟨rfl, hk⟩ := hpx
    refine vx_catch hown [⟨0, 115, 116, 43⟩] ⟨0, 115, 121, 46⟩ [⟨0, 115, 126, 49⟩, ⟨0, 115, 131, 52⟩] (by rw [htab]; rfl) (fun z hz => (List.mem_cons.mp hz).elim (fun e9 => by subst e9; exact Or.inr ⟨by decide, "java/lang/IndexOutOfBoundsException", hts (.classLink RL 43 "java/lang/IndexOutOfBoundsException") (by decide +kernel), hE.C 4 rfl⟩) (fun hz => absurd hz List.not_mem_nil)) rfl (by decide) (hts (.classLink RL 46 "java/lang/IllegalStateException") (by decide +kernel)) (va_Nw.use rfl (hE.N 33 rfl)) h1 h2 h3 ?_
    refine W.eq (g2 := F0 m 121 ls [.ref q9]) rfl ?_
    refine lv_astore (lv' := [(5, .ref q9), (0, .ref (ad 0)), (1, .int 0), (2, .int a), (3, .int b9), (4, .int x9)]) hx hb dL_asks_121 hl (by decide) rfl (fun ls hl => ?_)
    refine lv_ldc (v := (-9000008)) hx hb hown (hts (.constant RL 48 ((-9000008))) (by decide +kernel)) dL_asks_123 ?_
    exact ke_i hx hb hr hlocks (show 0 + 8 ≤ 8 by omega) (show 0 + 2060 ≤ 2060 by omega) dL_asks_125 hW (Or.inr ⟨⟨rfl, hk⟩, rfl, rfl⟩)
  · refine lv_goto (tgt := 115) hx hb dL_asks_8 (by decide) ?_
    exact ke_i hx hb hr hlocks (show 0 + 8 ≤ 8 by omega) (show 0 + 2060 ≤ 2060 by omega) dL_asks_115 hW (Or.inl hp3)

set_option maxHeartbeats 4000000 in
set_option maxRecDepth 100000 in
/-- k_asks_write -/
theorem k_asks_write (l : Launch) (hnt : l.stackTraces = false) (D : va_G) (A : Nat → Prop) (ad : Nat → Nat) (w : kWd) (S : St) (nT nC nD nM nZ : Nat) (hC : CW D S ad w nT nC) (hN : SN S nT nC nD nM nZ) (hlt : nC < 512) (a b9 x9 : Int32) : Met l yL_asks wsL_asks ({ frames := 8, cells := 10, slots := 2100, locals := 258 }) (kPc D A [.ref (ad 0), .int 1, .int a, .int b9, .int x9] ad w) (kQi D A (fun v ad' w' => (v = S 0 (nv b9) ∧ wrK S a b9 x9 = 0 ∧ CW D (wrM S a b9 x9) ad' w' nT (nC + 1) ∧ ad' 0 = ad 0 ∧ FrC ad w ad' w') ∨ (((v = (-9000007) ∧ wrK S a b9 x9 = 1) ∨ (v = (-9000009) ∧ wrK S a b9 x9 = 2) ∨ (v = (-9000008) ∧ wrK S a b9 x9 = 3)) ∧ ad' = ad ∧ w' = w))) 10 2100 A := by
  refine va_MetW (hh := [(0, 115, 116, 43), (0, 115, 121, 46), (0, 115, 126, 49), (0, 115, 131, 52)]) (cc := cL_asks) (maxL := 6) (ret := (some (.int))) (by decide) rfl ?_
  intro p e s m args below meth c s₁ B hml hv
  obtain ⟨rfl, hE, hW0, hI0, hA⟩ := hv
  have hx := B.exec
  have hb := B.bytes
  have hr := B.returns
  have hts := atoms_spec (ws := wsL_asks) B.pre
  have hown : s.vm.findClass RL = some m.cls := findClass_of_methodNamed B.named
  have hlocks := B.notSynchronized
  have hW : kS D A s.heap ad w s.heap [] := ⟨hW0, hI0, va_S.rf, hA⟩
  have hl := lv_entry ([.ref (ad 0), .int 1, .int a, .int b9, .int x9]) (n := 6) (Nat.le_of_ble_eq_true rfl)
  rw [lg_entry_eq]
  generalize (lg_sl ([.ref (ad 0), .int 1, .int a, .int b9, .int x9]) ++ List.replicate (6 - (lg_sl ([.ref (ad 0), .int 1, .int a, .int b9, .int x9])).length) Slot.unset).toArray = ls at hl ⊢
  have hl : lv_has ls 6 [(0, .ref (ad 0)), (1, .int 1), (2, .int a), (3, .int b9), (4, .int x9)] := hl
  have htab : c.exceptionTable.toList = tableOf [(0, 115, 116, 43), (0, 115, 121, 46), (0, 115, 126, 49), (0, 115, 131, 52)] := vx_table (x := yL_asks) B (hts (.codeWith yL_asks cL_asks 6 (some .int) [(0, 115, 116, 43), (0, 115, 121, 46), (0, 115, 126, 49), (0, 115, 131, 52)]) (by decide +kernel))
  refine lv_iload_n hx hb dL_asks_0 rfl (lv_at hl 1 rfl) ?_
  refine lv_if_ne (tgt := 11) hx hb dL_asks_1 (by decide) (fun _ => ?_) (fun c9 => absurd c9 (by decide))
  refine lv_iload_n hx hb dL_asks_11 rfl (lv_at hl 1 rfl) ?_
  refine lv_iconst (v := 1) hx hb dL_asks_12 (by decide) ?_
  refine lv_icmp_ne (tgt := 27) hx hb dL_asks_13 (by decide) (fun c9 => absurd (by decide) c9) (fun _ => ?_)
  refine lv_aload_n hx hb dL_asks_16 rfl (lv_at hl 0 rfl) ?_
  refine lv_iload_n hx hb dL_asks_17 rfl (lv_at hl 2 rfl) ?_
  refine lv_iload_n hx hb dL_asks_18 rfl (lv_at hl 3 rfl) ?_
  refine lv_iload hx hb dL_asks_19 (lv_at hl 4 rfl) ?_
  refine kx_i (vx_runV (As := [.int a, .int b9, .int x9]) (rest := []) ⟨hx, hb, hml, hown, hts⟩ (k_X5_write l hnt D A ad w S nT nC nD nM nZ hC hN hlt a b9 x9) (cwV 3 hts gL_asks_X5_write rfl rfl rfl (by decide +kernel) ⟨Nat.le_of_ble_eq_true rfl, Nat.le_of_ble_eq_true rfl⟩) (kV hE hW hC.u rfl _) rfl rfl hl.1 rfl (lv_room (Nat.le_of_ble_eq_true rfl)) dL_asks_21 ⟨Nat.le_of_ble_eq_true rfl, Nat.le_of_ble_eq_true rfl⟩) hW (fun E ce q9 H locs hpx hW h1 h2 h3 => ?_) (fun r4 ad1 w2 H5 locs hp3 hW => ?_)
  · rcases hpx with ⟨rfl, hk⟩ | ⟨rfl, hk⟩ | ⟨rfl, hk⟩
    · refine vx_catch hown [] ⟨0, 115, 116, 43⟩ [⟨0, 115, 121, 46⟩, ⟨0, 115, 126, 49⟩, ⟨0, 115, 131, 52⟩] (by rw [htab]; rfl) (fun z hz => absurd hz List.not_mem_nil) rfl (by decide) (hts (.classLink RL 43 "java/lang/IndexOutOfBoundsException") (by decide +kernel)) (va_Nw.use rfl (hE.N 34 rfl)) h1 h2 h3 ?_
      refine W.eq (g2 := F0 m 116 ls [.ref q9]) rfl ?_
      refine lv_astore (lv' := [(5, .ref q9), (0, .ref (ad 0)), (1, .int 1), (2, .int a), (3, .int b9), (4, .int x9)]) hx hb dL_asks_116 hl (by decide) rfl (fun ls hl => ?_)
      refine lv_ldc (v := (-9000007)) hx hb hown (hts (.constant RL 45 ((-9000007))) (by decide +kernel)) dL_asks_118 ?_
      exact ke_i hx hb hr hlocks (show 0 + 10 ≤ 10 by omega) (show 0 + 2100 ≤ 2100 by omega) dL_asks_120 hW (Or.inr ⟨Or.inl ⟨rfl, hk⟩, rfl, rfl⟩)
    · refine vx_catch hown [⟨0, 115, 116, 43⟩, ⟨0, 115, 121, 46⟩] ⟨0, 115, 126, 49⟩ [⟨0, 115, 131, 52⟩] (by rw [htab]; rfl) (fun z hz => (List.mem_cons.mp hz).elim (fun e9 => by subst e9; exact Or.inr ⟨by decide, "java/lang/IndexOutOfBoundsException", hts (.classLink RL 43 "java/lang/IndexOutOfBoundsException") (by decide +kernel), hE.C 1 rfl⟩) (fun hz => (List.mem_cons.mp hz).elim (fun e9 => by subst e9; exact Or.inr ⟨by decide, "java/lang/IllegalStateException", hts (.classLink RL 46 "java/lang/IllegalStateException") (by decide +kernel), hE.C 0 rfl⟩) (fun hz => absurd hz List.not_mem_nil))) rfl (by decide) (hts (.classLink RL 49 "java/lang/IllegalArgumentException") (by decide +kernel)) (va_Nw.use rfl (hE.N 32 rfl)) h1 h2 h3 ?_
      refine W.eq (g2 := F0 m 126 ls [.ref q9]) rfl ?_
      refine lv_astore (lv' := [(5, .ref q9), (0, .ref (ad 0)), (1, .int 1), (2, .int a), (3, .int b9), (4, .int x9)]) hx hb dL_asks_126 hl (by decide) rfl (fun ls hl => ?_)
      refine lv_ldc (v := (-9000009)) hx hb hown (hts (.constant RL 51 ((-9000009))) (by decide +kernel)) dL_asks_128 ?_
      exact ke_i hx hb hr hlocks (show 0 + 10 ≤ 10 by omega) (show 0 + 2100 ≤ 2100 by omega) dL_asks_130 hW (Or.inr ⟨Or.inr (Or.inl ⟨rfl, hk⟩), rfl, rfl⟩)
    · refine vx_catch hown [⟨0, 115, 116, 43⟩] ⟨0, 115, 121, 46⟩ [⟨0, 115, 126, 49⟩, ⟨0, 115, 131, 52⟩] (by rw [htab]; rfl) (fun z hz => (List.mem_cons.mp hz).elim (fun e9 => by subst e9; exact Or.inr ⟨by decide, "java/lang/IndexOutOfBoundsException", hts (.classLink RL 43 "java/lang/IndexOutOfBoundsException") (by decide +kernel), hE.C 4 rfl⟩) (fun hz => absurd hz List.not_mem_nil)) rfl (by decide) (hts (.classLink RL 46 "java/lang/IllegalStateException") (by decide +kernel)) (va_Nw.use rfl (hE.N 33 rfl)) h1 h2 h3 ?_
      refine W.eq (g2 := F0 m 121 ls [.ref q9]) rfl ?_
      refine lv_astore (lv' := [(5, .ref q9), (0, .ref (ad 0)), (1, .int 1), (2, .int a), (3, .int b9), (4, .int x9)]) hx hb dL_asks_121 hl (by decide) rfl (fun ls hl => ?_)
      refine lv_ldc (v := (-9000008)) hx hb hown (hts (.constant RL 48 ((-9000008))) (by decide +kernel)) dL_asks_123 ?_
      exact ke_i hx hb hr hlocks (show 0 + 10 ≤ 10 by omega) (show 0 + 2100 ≤ 2100 by omega) dL_asks_125 hW (Or.inr ⟨Or.inr (Or.inr (⟨rfl, hk⟩)), rfl, rfl⟩)
  · refine lv_goto (tgt := 115) hx hb dL_asks_24 (by decide) ?_
    exact ke_i hx hb hr hlocks (show 0 + 10 ≤ 10 by omega) (show 0 + 2100 ≤ 2100 by omega) dL_asks_115 hW (Or.inl hp3)

set_option maxHeartbeats 4000000 in
set_option maxRecDepth 100000 in
/-- k_asks_read -/
theorem k_asks_read (l : Launch) (hnt : l.stackTraces = false) (D : va_G) (A : Nat → Prop) (ad : Nat → Nat) (w : kWd) (S : St) (nT nC nD nM nZ : Nat) (hC : CW D S ad w nT nC) (hN : SN S nT nC nD nM nZ) (a b9 x9 : Int32) : Met l yL_asks wsL_asks ({ frames := 8, cells := 8, slots := 60, locals := 148 }) (kPc D A [.ref (ad 0), .int 2, .int a, .int b9, .int x9] ad w) (kQi D A (fun v ad' w' => (v = (vaV S (S 2 (nv a)) b9 a).1 ∧ (vaV S (S 2 (nv a)) b9 a).2 = 0 ∧ r1K S a b9 = 0 ∧ ad' = ad ∧ CW D (cleanS S (nv b9 / 4)) ad w' nT nC ∧ FrC ad w ad w') ∨ (((v = (-9000007) ∧ r1K S a b9 = 1) ∨ (v = (-9000008) ∧ r1K S a b9 = 2) ∨ (v = (-9000010) ∧ r1K S a b9 = 0 ∧ ¬ (vaV S (S 2 (nv a)) b9 a).2 = 0)) ∧ ad' = ad ∧ w' = w))) 8 60 A := by
  refine va_MetW (hh := [(0, 115, 116, 43), (0, 115, 121, 46), (0, 115, 126, 49), (0, 115, 131, 52)]) (cc := cL_asks) (maxL := 6) (ret := (some (.int))) (by decide) rfl ?_
  intro p e s m args below meth c s₁ B hml hv
  obtain ⟨rfl, hE, hW0, hI0, hA⟩ := hv
  have hx := B.exec
  have hb := B.bytes
  have hr := B.returns
  have hts := atoms_spec (ws := wsL_asks) B.pre
  have hown : s.vm.findClass RL = some m.cls := findClass_of_methodNamed B.named
  have hlocks := B.notSynchronized
  have hW : kS D A s.heap ad w s.heap [] := ⟨hW0, hI0, va_S.rf, hA⟩
  have hl := lv_entry ([.ref (ad 0), .int 2, .int a, .int b9, .int x9]) (n := 6) (Nat.le_of_ble_eq_true rfl)
  rw [lg_entry_eq]
  generalize (lg_sl ([.ref (ad 0), .int 2, .int a, .int b9, .int x9]) ++ List.replicate (6 - (lg_sl ([.ref (ad 0), .int 2, .int a, .int b9, .int x9])).length) Slot.unset).toArray = ls at hl ⊢
  have hl : lv_has ls 6 [(0, .ref (ad 0)), (1, .int 2), (2, .int a), (3, .int b9), (4, .int x9)] := hl
  have htab : c.exceptionTable.toList = tableOf [(0, 115, 116, 43), (0, 115, 121, 46), (0, 115, 126, 49), (0, 115, 131, 52)] := vx_table (x := yL_asks) B (hts (.codeWith yL_asks cL_asks 6 (some .int) [(0, 115, 116, 43), (0, 115, 121, 46), (0, 115, 126, 49), (0, 115, 131, 52)]) (by decide +kernel))
  refine lv_iload_n hx hb dL_asks_0 rfl (lv_at hl 1 rfl) ?_
  refine lv_if_ne (tgt := 11) hx hb dL_asks_1 (by decide) (fun _ => ?_) (fun c9 => absurd c9 (by decide))
  refine lv_iload_n hx hb dL_asks_11 rfl (lv_at hl 1 rfl) ?_
  refine lv_iconst (v := 1) hx hb dL_asks_12 (by decide) ?_
  refine lv_icmp_ne (tgt := 27) hx hb dL_asks_13 (by decide) (fun _ => ?_) (fun c9 => absurd c9 (by decide))
  refine lv_iload_n hx hb dL_asks_27 rfl (lv_at hl 1 rfl) ?_
  refine lv_iconst (v := 2) hx hb dL_asks_28 (by decide) ?_
  refine lv_icmp_ne (tgt := 41) hx hb dL_asks_29 (by decide) (fun c9 => absurd (by decide) c9) (fun _ => ?_)
  refine lv_aload_n hx hb dL_asks_32 rfl (lv_at hl 0 rfl) ?_
  refine lv_iload_n hx hb dL_asks_33 rfl (lv_at hl 2 rfl) ?_
  refine lv_iload_n hx hb dL_asks_34 rfl (lv_at hl 3 rfl) ?_
  refine kx_i (vx_runV (As := [.int a, .int b9]) (rest := []) ⟨hx, hb, hml, hown, hts⟩ (k_X5_read l hnt D A ad w S nT nC nD nM nZ hC hN a b9) (cwV 2 hts gL_asks_X5_read rfl rfl rfl (by decide +kernel) ⟨Nat.le_of_ble_eq_true rfl, Nat.le_of_ble_eq_true rfl⟩) (kV hE hW hC.u rfl _) rfl rfl hl.1 rfl (lv_room (Nat.le_of_ble_eq_true rfl)) dL_asks_35 ⟨Nat.le_of_ble_eq_true rfl, Nat.le_of_ble_eq_true rfl⟩) hW (fun E ce q9 H locs hpx hW h1 h2 h3 => ?_) (fun r4 ad1 w2 H5 locs hp3 hW => ?_)
  · rcases hpx with ⟨rfl, hk⟩ | ⟨rfl, hk⟩ | ⟨rfl, hk⟩
    · refine vx_catch hown [] ⟨0, 115, 116, 43⟩ [⟨0, 115, 121, 46⟩, ⟨0, 115, 126, 49⟩, ⟨0, 115, 131, 52⟩] (by rw [htab]; rfl) (fun z hz => absurd hz List.not_mem_nil) rfl (by decide) (hts (.classLink RL 43 "java/lang/IndexOutOfBoundsException") (by decide +kernel)) (va_Nw.use rfl (hE.N 34 rfl)) h1 h2 h3 ?_
      refine W.eq (g2 := F0 m 116 ls [.ref q9]) rfl ?_
      refine lv_astore (lv' := [(5, .ref q9), (0, .ref (ad 0)), (1, .int 2), (2, .int a), (3, .int b9), (4, .int x9)]) hx hb dL_asks_116 hl (by decide) rfl (fun ls hl => ?_)
      refine lv_ldc (v := (-9000007)) hx hb hown (hts (.constant RL 45 ((-9000007))) (by decide +kernel)) dL_asks_118 ?_
      exact ke_i hx hb hr hlocks (show 0 + 8 ≤ 8 by omega) (show 0 + 60 ≤ 60 by omega) dL_asks_120 hW (Or.inr ⟨Or.inl ⟨rfl, hk⟩, rfl, rfl⟩)
    · refine vx_catch hown [⟨0, 115, 116, 43⟩] ⟨0, 115, 121, 46⟩ [⟨0, 115, 126, 49⟩, ⟨0, 115, 131, 52⟩] (by rw [htab]; rfl) (fun z hz => (List.mem_cons.mp hz).elim (fun e9 => by subst e9; exact Or.inr ⟨by decide, "java/lang/IndexOutOfBoundsException", hts (.classLink RL 43 "java/lang/IndexOutOfBoundsException") (by decide +kernel), hE.C 4 rfl⟩) (fun hz => absurd hz List.not_mem_nil)) rfl (by decide) (hts (.classLink RL 46 "java/lang/IllegalStateException") (by decide +kernel)) (va_Nw.use rfl (hE.N 33 rfl)) h1 h2 h3 ?_
      refine W.eq (g2 := F0 m 121 ls [.ref q9]) rfl ?_
      refine lv_astore (lv' := [(5, .ref q9), (0, .ref (ad 0)), (1, .int 2), (2, .int a), (3, .int b9), (4, .int x9)]) hx hb dL_asks_121 hl (by decide) rfl (fun ls hl => ?_)
      refine lv_ldc (v := (-9000008)) hx hb hown (hts (.constant RL 48 ((-9000008))) (by decide +kernel)) dL_asks_123 ?_
      exact ke_i hx hb hr hlocks (show 0 + 8 ≤ 8 by omega) (show 0 + 60 ≤ 60 by omega) dL_asks_125 hW (Or.inr ⟨Or.inr (Or.inl ⟨rfl, hk⟩), rfl, rfl⟩)
    · refine vx_catch hown [⟨0, 115, 116, 43⟩, ⟨0, 115, 121, 46⟩, ⟨0, 115, 126, 49⟩] ⟨0, 115, 131, 52⟩ [] (by rw [htab]; rfl) (fun z hz => (List.mem_cons.mp hz).elim (fun e9 => by subst e9; exact Or.inr ⟨by decide, "java/lang/IndexOutOfBoundsException", hts (.classLink RL 43 "java/lang/IndexOutOfBoundsException") (by decide +kernel), hE.C 11 rfl⟩) (fun hz => (List.mem_cons.mp hz).elim (fun e9 => by subst e9; exact Or.inr ⟨by decide, "java/lang/IllegalStateException", hts (.classLink RL 46 "java/lang/IllegalStateException") (by decide +kernel), hE.C 10 rfl⟩) (fun hz => (List.mem_cons.mp hz).elim (fun e9 => by subst e9; exact Or.inr ⟨by decide, "java/lang/IllegalArgumentException", hts (.classLink RL 49 "java/lang/IllegalArgumentException") (by decide +kernel), hE.C 9 rfl⟩) (fun hz => absurd hz List.not_mem_nil)))) rfl (by decide) (hts (.classLink RL 52 "java/util/NoSuchElementException") (by decide +kernel)) (va_Nw.use rfl (hE.N 35 rfl)) h1 h2 h3 ?_
      refine W.eq (g2 := F0 m 131 ls [.ref q9]) rfl ?_
      refine lv_astore (lv' := [(5, .ref q9), (0, .ref (ad 0)), (1, .int 2), (2, .int a), (3, .int b9), (4, .int x9)]) hx hb dL_asks_131 hl (by decide) rfl (fun ls hl => ?_)
      refine lv_ldc (v := (-9000010)) hx hb hown (hts (.constant RL 54 ((-9000010))) (by decide +kernel)) dL_asks_133 ?_
      exact ke_i hx hb hr hlocks (show 0 + 8 ≤ 8 by omega) (show 0 + 60 ≤ 60 by omega) dL_asks_135 hW (Or.inr ⟨Or.inr (Or.inr (⟨rfl, hk⟩)), rfl, rfl⟩)
  · refine lv_goto (tgt := 115) hx hb dL_asks_38 (by decide) ?_
    exact ke_i hx hb hr hlocks (show 0 + 8 ≤ 8 by omega) (show 0 + 60 ≤ 60 by omega) dL_asks_115 hW (Or.inl hp3)

set_option maxHeartbeats 4000000 in
set_option maxRecDepth 100000 in
/-- k_asks_readAt -/
theorem k_asks_readAt (l : Launch) (hnt : l.stackTraces = false) (D : va_G) (A : Nat → Prop) (ad : Nat → Nat) (w : kWd) (S : St) (nT nC nD nM nZ : Nat) (hC : CW D S ad w nT nC) (hN : SN S nT nC nD nM nZ) (a b9 x9 : Int32) : Met l yL_asks wsL_asks ({ frames := 8, cells := 8, slots := 60, locals := 147 }) (kPc D A [.ref (ad 0), .int 3, .int a, .int b9, .int x9] ad w) (kQi D A (fun v ad' w' => (v = (vaV S a b9 (-1)).1 ∧ (vaV S a b9 (-1)).2 = 0 ∧ vrK S a b9 = 0 ∧ ad' = ad ∧ CW D (cleanS S (nv b9 / 4)) ad w' nT nC ∧ FrC ad w ad w') ∨ (((v = (-9000007) ∧ vrK S a b9 = 1) ∨ (v = (-9000009) ∧ vrK S a b9 = 2) ∨ (v = (-9000010) ∧ vrK S a b9 = 0 ∧ ¬ (vaV S a b9 (-1)).2 = 0)) ∧ ad' = ad ∧ w' = w))) 8 60 A := by
  refine va_MetW (hh := [(0, 115, 116, 43), (0, 115, 121, 46), (0, 115, 126, 49), (0, 115, 131, 52)]) (cc := cL_asks) (maxL := 6) (ret := (some (.int))) (by decide) rfl ?_
  intro p e s m args below meth c s₁ B hml hv
  obtain ⟨rfl, hE, hW0, hI0, hA⟩ := hv
  have hx := B.exec
  have hb := B.bytes
  have hr := B.returns
  have hts := atoms_spec (ws := wsL_asks) B.pre
  have hown : s.vm.findClass RL = some m.cls := findClass_of_methodNamed B.named
  have hlocks := B.notSynchronized
  have hW : kS D A s.heap ad w s.heap [] := ⟨hW0, hI0, va_S.rf, hA⟩
  have hl := lv_entry ([.ref (ad 0), .int 3, .int a, .int b9, .int x9]) (n := 6) (Nat.le_of_ble_eq_true rfl)
  rw [lg_entry_eq]
  generalize (lg_sl ([.ref (ad 0), .int 3, .int a, .int b9, .int x9]) ++ List.replicate (6 - (lg_sl ([.ref (ad 0), .int 3, .int a, .int b9, .int x9])).length) Slot.unset).toArray = ls at hl ⊢
  have hl : lv_has ls 6 [(0, .ref (ad 0)), (1, .int 3), (2, .int a), (3, .int b9), (4, .int x9)] := hl
  have htab : c.exceptionTable.toList = tableOf [(0, 115, 116, 43), (0, 115, 121, 46), (0, 115, 126, 49), (0, 115, 131, 52)] := vx_table (x := yL_asks) B (hts (.codeWith yL_asks cL_asks 6 (some .int) [(0, 115, 116, 43), (0, 115, 121, 46), (0, 115, 126, 49), (0, 115, 131, 52)]) (by decide +kernel))
  refine lv_iload_n hx hb dL_asks_0 rfl (lv_at hl 1 rfl) ?_
  refine lv_if_ne (tgt := 11) hx hb dL_asks_1 (by decide) (fun _ => ?_) (fun c9 => absurd c9 (by decide))
  refine lv_iload_n hx hb dL_asks_11 rfl (lv_at hl 1 rfl) ?_
  refine lv_iconst (v := 1) hx hb dL_asks_12 (by decide) ?_
  refine lv_icmp_ne (tgt := 27) hx hb dL_asks_13 (by decide) (fun _ => ?_) (fun c9 => absurd c9 (by decide))
  refine lv_iload_n hx hb dL_asks_27 rfl (lv_at hl 1 rfl) ?_
  refine lv_iconst (v := 2) hx hb dL_asks_28 (by decide) ?_
  refine lv_icmp_ne (tgt := 41) hx hb dL_asks_29 (by decide) (fun _ => ?_) (fun c9 => absurd c9 (by decide))
  refine lv_iload_n hx hb dL_asks_41 rfl (lv_at hl 1 rfl) ?_
  refine lv_iconst (v := 3) hx hb dL_asks_42 (by decide) ?_
  refine lv_icmp_ne (tgt := 55) hx hb dL_asks_43 (by decide) (fun c9 => absurd (by decide) c9) (fun _ => ?_)
  refine lv_aload_n hx hb dL_asks_46 rfl (lv_at hl 0 rfl) ?_
  refine lv_iload_n hx hb dL_asks_47 rfl (lv_at hl 2 rfl) ?_
  refine lv_iload_n hx hb dL_asks_48 rfl (lv_at hl 3 rfl) ?_
  refine kx_i (vx_runV (As := [.int a, .int b9]) (rest := []) ⟨hx, hb, hml, hown, hts⟩ (k_X5_readAt l hnt D A ad w S nT nC nD nM nZ hC hN a b9) (cwV 2 hts gL_asks_X5_readAt rfl rfl rfl (by decide +kernel) ⟨Nat.le_of_ble_eq_true rfl, Nat.le_of_ble_eq_true rfl⟩) (kV hE hW hC.u rfl _) rfl rfl hl.1 rfl (lv_room (Nat.le_of_ble_eq_true rfl)) dL_asks_49 ⟨Nat.le_of_ble_eq_true rfl, Nat.le_of_ble_eq_true rfl⟩) hW (fun E ce q9 H locs hpx hW h1 h2 h3 => ?_) (fun r4 ad1 w2 H5 locs hp3 hW => ?_)
  · rcases hpx with ⟨rfl, hk⟩ | ⟨rfl, hk⟩ | ⟨rfl, hk⟩
    · refine vx_catch hown [] ⟨0, 115, 116, 43⟩ [⟨0, 115, 121, 46⟩, ⟨0, 115, 126, 49⟩, ⟨0, 115, 131, 52⟩] (by rw [htab]; rfl) (fun z hz => absurd hz List.not_mem_nil) rfl (by decide) (hts (.classLink RL 43 "java/lang/IndexOutOfBoundsException") (by decide +kernel)) (va_Nw.use rfl (hE.N 34 rfl)) h1 h2 h3 ?_
      refine W.eq (g2 := F0 m 116 ls [.ref q9]) rfl ?_
      refine lv_astore (lv' := [(5, .ref q9), (0, .ref (ad 0)), (1, .int 3), (2, .int a), (3, .int b9), (4, .int x9)]) hx hb dL_asks_116 hl (by decide) rfl (fun ls hl => ?_)
      refine lv_ldc (v := (-9000007)) hx hb hown (hts (.constant RL 45 ((-9000007))) (by decide +kernel)) dL_asks_118 ?_
      exact ke_i hx hb hr hlocks (show 0 + 8 ≤ 8 by omega) (show 0 + 60 ≤ 60 by omega) dL_asks_120 hW (Or.inr ⟨Or.inl ⟨rfl, hk⟩, rfl, rfl⟩)
    · refine vx_catch hown [⟨0, 115, 116, 43⟩, ⟨0, 115, 121, 46⟩] ⟨0, 115, 126, 49⟩ [⟨0, 115, 131, 52⟩] (by rw [htab]; rfl) (fun z hz => (List.mem_cons.mp hz).elim (fun e9 => by subst e9; exact Or.inr ⟨by decide, "java/lang/IndexOutOfBoundsException", hts (.classLink RL 43 "java/lang/IndexOutOfBoundsException") (by decide +kernel), hE.C 1 rfl⟩) (fun hz => (List.mem_cons.mp hz).elim (fun e9 => by subst e9; exact Or.inr ⟨by decide, "java/lang/IllegalStateException", hts (.classLink RL 46 "java/lang/IllegalStateException") (by decide +kernel), hE.C 0 rfl⟩) (fun hz => absurd hz List.not_mem_nil))) rfl (by decide) (hts (.classLink RL 49 "java/lang/IllegalArgumentException") (by decide +kernel)) (va_Nw.use rfl (hE.N 32 rfl)) h1 h2 h3 ?_
      refine W.eq (g2 := F0 m 126 ls [.ref q9]) rfl ?_
      refine lv_astore (lv' := [(5, .ref q9), (0, .ref (ad 0)), (1, .int 3), (2, .int a), (3, .int b9), (4, .int x9)]) hx hb dL_asks_126 hl (by decide) rfl (fun ls hl => ?_)
      refine lv_ldc (v := (-9000009)) hx hb hown (hts (.constant RL 51 ((-9000009))) (by decide +kernel)) dL_asks_128 ?_
      exact ke_i hx hb hr hlocks (show 0 + 8 ≤ 8 by omega) (show 0 + 60 ≤ 60 by omega) dL_asks_130 hW (Or.inr ⟨Or.inr (Or.inl ⟨rfl, hk⟩), rfl, rfl⟩)
    · refine vx_catch hown [⟨0, 115, 116, 43⟩, ⟨0, 115, 121, 46⟩, ⟨0, 115, 126, 49⟩] ⟨0, 115, 131, 52⟩ [] (by rw [htab]; rfl) (fun z hz => (List.mem_cons.mp hz).elim (fun e9 => by subst e9; exact Or.inr ⟨by decide, "java/lang/IndexOutOfBoundsException", hts (.classLink RL 43 "java/lang/IndexOutOfBoundsException") (by decide +kernel), hE.C 11 rfl⟩) (fun hz => (List.mem_cons.mp hz).elim (fun e9 => by subst e9; exact Or.inr ⟨by decide, "java/lang/IllegalStateException", hts (.classLink RL 46 "java/lang/IllegalStateException") (by decide +kernel), hE.C 10 rfl⟩) (fun hz => (List.mem_cons.mp hz).elim (fun e9 => by subst e9; exact Or.inr ⟨by decide, "java/lang/IllegalArgumentException", hts (.classLink RL 49 "java/lang/IllegalArgumentException") (by decide +kernel), hE.C 9 rfl⟩) (fun hz => absurd hz List.not_mem_nil)))) rfl (by decide) (hts (.classLink RL 52 "java/util/NoSuchElementException") (by decide +kernel)) (va_Nw.use rfl (hE.N 35 rfl)) h1 h2 h3 ?_
      refine W.eq (g2 := F0 m 131 ls [.ref q9]) rfl ?_
      refine lv_astore (lv' := [(5, .ref q9), (0, .ref (ad 0)), (1, .int 3), (2, .int a), (3, .int b9), (4, .int x9)]) hx hb dL_asks_131 hl (by decide) rfl (fun ls hl => ?_)
      refine lv_ldc (v := (-9000010)) hx hb hown (hts (.constant RL 54 ((-9000010))) (by decide +kernel)) dL_asks_133 ?_
      exact ke_i hx hb hr hlocks (show 0 + 8 ≤ 8 by omega) (show 0 + 60 ≤ 60 by omega) dL_asks_135 hW (Or.inr ⟨Or.inr (Or.inr (⟨rfl, hk⟩)), rfl, rfl⟩)
  · refine lv_goto (tgt := 115) hx hb dL_asks_52 (by decide) ?_
    exact ke_i hx hb hr hlocks (show 0 + 8 ≤ 8 by omega) (show 0 + 60 ≤ 60 by omega) dL_asks_115 hW (Or.inl hp3)

set_option maxHeartbeats 4000000 in
set_option maxRecDepth 100000 in
/-- k_asks_save -/
theorem k_asks_save (l : Launch) (hnt : l.stackTraces = false) (D : va_G) (A : Nat → Prop) (ad : Nat → Nat) (w : kWd) (S : St) (nT nC nD nM nZ : Nat) (hC : CW D S ad w nT nC) (hN : SN S nT nC nD nM nZ) (a b9 x9 : Int32) : Met l yL_asks wsL_asks ({ frames := 8, cells := 8, slots := 60, locals := 143 }) (kPc D A [.ref (ad 0), .int 4, .int a, .int b9, .int x9] ad w) (kQi D A (fun v ad' w' => (v = stV S a ∧ opK S a = 0 ∧ ad' = ad ∧ w' = w) ∨ (((v = (-9000007) ∧ opK S a = 1) ∨ (v = (-9000008) ∧ opK S a = 2)) ∧ ad' = ad ∧ w' = w))) 8 60 A := by
  refine va_MetW (hh := [(0, 115, 116, 43), (0, 115, 121, 46), (0, 115, 126, 49), (0, 115, 131, 52)]) (cc := cL_asks) (maxL := 6) (ret := (some (.int))) (by decide) rfl ?_
  intro p e s m args below meth c s₁ B hml hv
  obtain ⟨rfl, hE, hW0, hI0, hA⟩ := hv
  have hx := B.exec
  have hb := B.bytes
  have hr := B.returns
  have hts := atoms_spec (ws := wsL_asks) B.pre
  have hown : s.vm.findClass RL = some m.cls := findClass_of_methodNamed B.named
  have hlocks := B.notSynchronized
  have hW : kS D A s.heap ad w s.heap [] := ⟨hW0, hI0, va_S.rf, hA⟩
  have hl := lv_entry ([.ref (ad 0), .int 4, .int a, .int b9, .int x9]) (n := 6) (Nat.le_of_ble_eq_true rfl)
  rw [lg_entry_eq]
  generalize (lg_sl ([.ref (ad 0), .int 4, .int a, .int b9, .int x9]) ++ List.replicate (6 - (lg_sl ([.ref (ad 0), .int 4, .int a, .int b9, .int x9])).length) Slot.unset).toArray = ls at hl ⊢
  have hl : lv_has ls 6 [(0, .ref (ad 0)), (1, .int 4), (2, .int a), (3, .int b9), (4, .int x9)] := hl
  have htab : c.exceptionTable.toList = tableOf [(0, 115, 116, 43), (0, 115, 121, 46), (0, 115, 126, 49), (0, 115, 131, 52)] := vx_table (x := yL_asks) B (hts (.codeWith yL_asks cL_asks 6 (some .int) [(0, 115, 116, 43), (0, 115, 121, 46), (0, 115, 126, 49), (0, 115, 131, 52)]) (by decide +kernel))
  refine lv_iload_n hx hb dL_asks_0 rfl (lv_at hl 1 rfl) ?_
  refine lv_if_ne (tgt := 11) hx hb dL_asks_1 (by decide) (fun _ => ?_) (fun c9 => absurd c9 (by decide))
  refine lv_iload_n hx hb dL_asks_11 rfl (lv_at hl 1 rfl) ?_
  refine lv_iconst (v := 1) hx hb dL_asks_12 (by decide) ?_
  refine lv_icmp_ne (tgt := 27) hx hb dL_asks_13 (by decide) (fun _ => ?_) (fun c9 => absurd c9 (by decide))
  refine lv_iload_n hx hb dL_asks_27 rfl (lv_at hl 1 rfl) ?_
  refine lv_iconst (v := 2) hx hb dL_asks_28 (by decide) ?_
  refine lv_icmp_ne (tgt := 41) hx hb dL_asks_29 (by decide) (fun _ => ?_) (fun c9 => absurd c9 (by decide))
  refine lv_iload_n hx hb dL_asks_41 rfl (lv_at hl 1 rfl) ?_
  refine lv_iconst (v := 3) hx hb dL_asks_42 (by decide) ?_
  refine lv_icmp_ne (tgt := 55) hx hb dL_asks_43 (by decide) (fun _ => ?_) (fun c9 => absurd c9 (by decide))
  refine lv_iload_n hx hb dL_asks_55 rfl (lv_at hl 1 rfl) ?_
  refine lv_iconst (v := 4) hx hb dL_asks_56 (by decide) ?_
  refine lv_icmp_ne (tgt := 68) hx hb dL_asks_57 (by decide) (fun c9 => absurd (by decide) c9) (fun _ => ?_)
  refine lv_aload_n hx hb dL_asks_60 rfl (lv_at hl 0 rfl) ?_
  refine lv_iload_n hx hb dL_asks_61 rfl (lv_at hl 2 rfl) ?_
  refine kx_i (vx_runV (As := [.int a]) (rest := []) ⟨hx, hb, hml, hown, hts⟩ (k_X5_save l hnt D A ad w S nT nC nD nM nZ hC hN a) (cwV 1 hts gL_asks_X5_save rfl rfl rfl (by decide +kernel) ⟨Nat.le_of_ble_eq_true rfl, Nat.le_of_ble_eq_true rfl⟩) (kV hE hW hC.u rfl _) rfl rfl hl.1 rfl (lv_room (Nat.le_of_ble_eq_true rfl)) dL_asks_62 ⟨Nat.le_of_ble_eq_true rfl, Nat.le_of_ble_eq_true rfl⟩) hW (fun E ce q9 H locs hpx hW h1 h2 h3 => ?_) (fun r4 ad1 w2 H5 locs hp3 hW => ?_)
  · rcases hpx with ⟨rfl, hk⟩ | ⟨rfl, hk⟩
    · refine vx_catch hown [] ⟨0, 115, 116, 43⟩ [⟨0, 115, 121, 46⟩, ⟨0, 115, 126, 49⟩, ⟨0, 115, 131, 52⟩] (by rw [htab]; rfl) (fun z hz => absurd hz List.not_mem_nil) rfl (by decide) (hts (.classLink RL 43 "java/lang/IndexOutOfBoundsException") (by decide +kernel)) (va_Nw.use rfl (hE.N 34 rfl)) h1 h2 h3 ?_
      refine W.eq (g2 := F0 m 116 ls [.ref q9]) rfl ?_
      refine lv_astore (lv' := [(5, .ref q9), (0, .ref (ad 0)), (1, .int 4), (2, .int a), (3, .int b9), (4, .int x9)]) hx hb dL_asks_116 hl (by decide) rfl (fun ls hl => ?_)
      refine lv_ldc (v := (-9000007)) hx hb hown (hts (.constant RL 45 ((-9000007))) (by decide +kernel)) dL_asks_118 ?_
      exact ke_i hx hb hr hlocks (show 0 + 8 ≤ 8 by omega) (show 0 + 60 ≤ 60 by omega) dL_asks_120 hW (Or.inr ⟨Or.inl ⟨rfl, hk⟩, rfl, rfl⟩)
    · refine vx_catch hown [⟨0, 115, 116, 43⟩] ⟨0, 115, 121, 46⟩ [⟨0, 115, 126, 49⟩, ⟨0, 115, 131, 52⟩] (by rw [htab]; rfl) (fun z hz => (List.mem_cons.mp hz).elim (fun e9 => by subst e9; exact Or.inr ⟨by decide, "java/lang/IndexOutOfBoundsException", hts (.classLink RL 43 "java/lang/IndexOutOfBoundsException") (by decide +kernel), hE.C 4 rfl⟩) (fun hz => absurd hz List.not_mem_nil)) rfl (by decide) (hts (.classLink RL 46 "java/lang/IllegalStateException") (by decide +kernel)) (va_Nw.use rfl (hE.N 33 rfl)) h1 h2 h3 ?_
      refine W.eq (g2 := F0 m 121 ls [.ref q9]) rfl ?_
      refine lv_astore (lv' := [(5, .ref q9), (0, .ref (ad 0)), (1, .int 4), (2, .int a), (3, .int b9), (4, .int x9)]) hx hb dL_asks_121 hl (by decide) rfl (fun ls hl => ?_)
      refine lv_ldc (v := (-9000008)) hx hb hown (hts (.constant RL 48 ((-9000008))) (by decide +kernel)) dL_asks_123 ?_
      exact ke_i hx hb hr hlocks (show 0 + 8 ≤ 8 by omega) (show 0 + 60 ≤ 60 by omega) dL_asks_125 hW (Or.inr ⟨Or.inr (⟨rfl, hk⟩), rfl, rfl⟩)
  · refine lv_goto (tgt := 115) hx hb dL_asks_65 (by decide) ?_
    exact ke_i hx hb hr hlocks (show 0 + 8 ≤ 8 by omega) (show 0 + 60 ≤ 60 by omega) dL_asks_115 hW (Or.inl hp3)

set_option maxHeartbeats 4000000 in
set_option maxRecDepth 100000 in
/-- k_asks_undoTo -/
theorem k_asks_undoTo (l : Launch) (hnt : l.stackTraces = false) (D : va_G) (A : Nat → Prop) (ad : Nat → Nat) (w : kWd) (S : St) (nT nC nD nM nZ : Nat) (hC : CW D S ad w nT nC) (hN : SN S nT nC nD nM nZ) (a b9 x9 : Int32) : Met l yL_asks wsL_asks ({ frames := 8, cells := 8, slots := 60, locals := 144 }) (kPc D A [.ref (ad 0), .int 5, .int a, .int b9, .int x9] ad w) (kQi D A (fun v ad' w' => (v = stV S a - b9 ∧ opK S a = 0 ∧ inP b9 0 (stV S a) ∧ ad' = ad ∧ CW D (unS S a (stV S a - b9)) ad w' nT nC ∧ FrC ad w ad w') ∨ (((v = (-9000007) ∧ opK S a = 1) ∨ (v = (-9000008) ∧ opK S a = 2) ∨ (v = (-9000009) ∧ opK S a = 0 ∧ ¬ inP b9 0 (stV S a))) ∧ ad' = ad ∧ w' = w))) 8 60 A := by
  refine va_MetW (hh := [(0, 115, 116, 43), (0, 115, 121, 46), (0, 115, 126, 49), (0, 115, 131, 52)]) (cc := cL_asks) (maxL := 6) (ret := (some (.int))) (by decide) rfl ?_
  intro p e s m args below meth c s₁ B hml hv
  obtain ⟨rfl, hE, hW0, hI0, hA⟩ := hv
  have hx := B.exec
  have hb := B.bytes
  have hr := B.returns
  have hts := atoms_spec (ws := wsL_asks) B.pre
  have hown : s.vm.findClass RL = some m.cls := findClass_of_methodNamed B.named
  have hlocks := B.notSynchronized
  have hW : kS D A s.heap ad w s.heap [] := ⟨hW0, hI0, va_S.rf, hA⟩
  have hl := lv_entry ([.ref (ad 0), .int 5, .int a, .int b9, .int x9]) (n := 6) (Nat.le_of_ble_eq_true rfl)
  rw [lg_entry_eq]
  generalize (lg_sl ([.ref (ad 0), .int 5, .int a, .int b9, .int x9]) ++ List.replicate (6 - (lg_sl ([.ref (ad 0), .int 5, .int a, .int b9, .int x9])).length) Slot.unset).toArray = ls at hl ⊢
  have hl : lv_has ls 6 [(0, .ref (ad 0)), (1, .int 5), (2, .int a), (3, .int b9), (4, .int x9)] := hl
  have htab : c.exceptionTable.toList = tableOf [(0, 115, 116, 43), (0, 115, 121, 46), (0, 115, 126, 49), (0, 115, 131, 52)] := vx_table (x := yL_asks) B (hts (.codeWith yL_asks cL_asks 6 (some .int) [(0, 115, 116, 43), (0, 115, 121, 46), (0, 115, 126, 49), (0, 115, 131, 52)]) (by decide +kernel))
  refine lv_iload_n hx hb dL_asks_0 rfl (lv_at hl 1 rfl) ?_
  refine lv_if_ne (tgt := 11) hx hb dL_asks_1 (by decide) (fun _ => ?_) (fun c9 => absurd c9 (by decide))
  refine lv_iload_n hx hb dL_asks_11 rfl (lv_at hl 1 rfl) ?_
  refine lv_iconst (v := 1) hx hb dL_asks_12 (by decide) ?_
  refine lv_icmp_ne (tgt := 27) hx hb dL_asks_13 (by decide) (fun _ => ?_) (fun c9 => absurd c9 (by decide))
  refine lv_iload_n hx hb dL_asks_27 rfl (lv_at hl 1 rfl) ?_
  refine lv_iconst (v := 2) hx hb dL_asks_28 (by decide) ?_
  refine lv_icmp_ne (tgt := 41) hx hb dL_asks_29 (by decide) (fun _ => ?_) (fun c9 => absurd c9 (by decide))
  refine lv_iload_n hx hb dL_asks_41 rfl (lv_at hl 1 rfl) ?_
  refine lv_iconst (v := 3) hx hb dL_asks_42 (by decide) ?_
  refine lv_icmp_ne (tgt := 55) hx hb dL_asks_43 (by decide) (fun _ => ?_) (fun c9 => absurd c9 (by decide))
  refine lv_iload_n hx hb dL_asks_55 rfl (lv_at hl 1 rfl) ?_
  refine lv_iconst (v := 4) hx hb dL_asks_56 (by decide) ?_
  refine lv_icmp_ne (tgt := 68) hx hb dL_asks_57 (by decide) (fun _ => ?_) (fun c9 => absurd c9 (by decide))
  refine lv_iload_n hx hb dL_asks_68 rfl (lv_at hl 1 rfl) ?_
  refine lv_iconst (v := 5) hx hb dL_asks_69 (by decide) ?_
  refine lv_icmp_ne (tgt := 82) hx hb dL_asks_70 (by decide) (fun c9 => absurd (by decide) c9) (fun _ => ?_)
  refine lv_aload_n hx hb dL_asks_73 rfl (lv_at hl 0 rfl) ?_
  refine lv_iload_n hx hb dL_asks_74 rfl (lv_at hl 2 rfl) ?_
  refine lv_iload_n hx hb dL_asks_75 rfl (lv_at hl 3 rfl) ?_
  refine kx_i (vx_runV (As := [.int a, .int b9]) (rest := []) ⟨hx, hb, hml, hown, hts⟩ (k_X5_undoTo l hnt D A ad w S nT nC nD nM nZ hC hN a b9) (cwV 2 hts gL_asks_X5_undoTo rfl rfl rfl (by decide +kernel) ⟨Nat.le_of_ble_eq_true rfl, Nat.le_of_ble_eq_true rfl⟩) (kV hE hW hC.u rfl _) rfl rfl hl.1 rfl (lv_room (Nat.le_of_ble_eq_true rfl)) dL_asks_76 ⟨Nat.le_of_ble_eq_true rfl, Nat.le_of_ble_eq_true rfl⟩) hW (fun E ce q9 H locs hpx hW h1 h2 h3 => ?_) (fun r4 ad1 w2 H5 locs hp3 hW => ?_)
  · rcases hpx with ⟨rfl, hk⟩ | ⟨rfl, hk⟩ | ⟨rfl, hk⟩
    · refine vx_catch hown [] ⟨0, 115, 116, 43⟩ [⟨0, 115, 121, 46⟩, ⟨0, 115, 126, 49⟩, ⟨0, 115, 131, 52⟩] (by rw [htab]; rfl) (fun z hz => absurd hz List.not_mem_nil) rfl (by decide) (hts (.classLink RL 43 "java/lang/IndexOutOfBoundsException") (by decide +kernel)) (va_Nw.use rfl (hE.N 34 rfl)) h1 h2 h3 ?_
      refine W.eq (g2 := F0 m 116 ls [.ref q9]) rfl ?_
      refine lv_astore (lv' := [(5, .ref q9), (0, .ref (ad 0)), (1, .int 5), (2, .int a), (3, .int b9), (4, .int x9)]) hx hb dL_asks_116 hl (by decide) rfl (fun ls hl => ?_)
      refine lv_ldc (v := (-9000007)) hx hb hown (hts (.constant RL 45 ((-9000007))) (by decide +kernel)) dL_asks_118 ?_
      exact ke_i hx hb hr hlocks (show 0 + 8 ≤ 8 by omega) (show 0 + 60 ≤ 60 by omega) dL_asks_120 hW (Or.inr ⟨Or.inl ⟨rfl, hk⟩, rfl, rfl⟩)
    · refine vx_catch hown [⟨0, 115, 116, 43⟩] ⟨0, 115, 121, 46⟩ [⟨0, 115, 126, 49⟩, ⟨0, 115, 131, 52⟩] (by rw [htab]; rfl) (fun z hz => (List.mem_cons.mp hz).elim (fun e9 => by subst e9; exact Or.inr ⟨by decide, "java/lang/IndexOutOfBoundsException", hts (.classLink RL 43 "java/lang/IndexOutOfBoundsException") (by decide +kernel), hE.C 4 rfl⟩) (fun hz => absurd hz List.not_mem_nil)) rfl (by decide) (hts (.classLink RL 46 "java/lang/IllegalStateException") (by decide +kernel)) (va_Nw.use rfl (hE.N 33 rfl)) h1 h2 h3 ?_
      refine W.eq (g2 := F0 m 121 ls [.ref q9]) rfl ?_
      refine lv_astore (lv' := [(5, .ref q9), (0, .ref (ad 0)), (1, .int 5), (2, .int a), (3, .int b9), (4, .int x9)]) hx hb dL_asks_121 hl (by decide) rfl (fun ls hl => ?_)
      refine lv_ldc (v := (-9000008)) hx hb hown (hts (.constant RL 48 ((-9000008))) (by decide +kernel)) dL_asks_123 ?_
      exact ke_i hx hb hr hlocks (show 0 + 8 ≤ 8 by omega) (show 0 + 60 ≤ 60 by omega) dL_asks_125 hW (Or.inr ⟨Or.inr (Or.inl ⟨rfl, hk⟩), rfl, rfl⟩)
    · refine vx_catch hown [⟨0, 115, 116, 43⟩, ⟨0, 115, 121, 46⟩] ⟨0, 115, 126, 49⟩ [⟨0, 115, 131, 52⟩] (by rw [htab]; rfl) (fun z hz => (List.mem_cons.mp hz).elim (fun e9 => by subst e9; exact Or.inr ⟨by decide, "java/lang/IndexOutOfBoundsException", hts (.classLink RL 43 "java/lang/IndexOutOfBoundsException") (by decide +kernel), hE.C 1 rfl⟩) (fun hz => (List.mem_cons.mp hz).elim (fun e9 => by subst e9; exact Or.inr ⟨by decide, "java/lang/IllegalStateException", hts (.classLink RL 46 "java/lang/IllegalStateException") (by decide +kernel), hE.C 0 rfl⟩) (fun hz => absurd hz List.not_mem_nil))) rfl (by decide) (hts (.classLink RL 49 "java/lang/IllegalArgumentException") (by decide +kernel)) (va_Nw.use rfl (hE.N 32 rfl)) h1 h2 h3 ?_
      refine W.eq (g2 := F0 m 126 ls [.ref q9]) rfl ?_
      refine lv_astore (lv' := [(5, .ref q9), (0, .ref (ad 0)), (1, .int 5), (2, .int a), (3, .int b9), (4, .int x9)]) hx hb dL_asks_126 hl (by decide) rfl (fun ls hl => ?_)
      refine lv_ldc (v := (-9000009)) hx hb hown (hts (.constant RL 51 ((-9000009))) (by decide +kernel)) dL_asks_128 ?_
      exact ke_i hx hb hr hlocks (show 0 + 8 ≤ 8 by omega) (show 0 + 60 ≤ 60 by omega) dL_asks_130 hW (Or.inr ⟨Or.inr (Or.inr (⟨rfl, hk⟩)), rfl, rfl⟩)
  · refine lv_goto (tgt := 115) hx hb dL_asks_79 (by decide) ?_
    exact ke_i hx hb hr hlocks (show 0 + 8 ≤ 8 by omega) (show 0 + 60 ≤ 60 by omega) dL_asks_115 hW (Or.inl hp3)

set_option maxHeartbeats 4000000 in
set_option maxRecDepth 100000 in
/-- k_asks_undo -/
theorem k_asks_undo (l : Launch) (hnt : l.stackTraces = false) (D : va_G) (A : Nat → Prop) (ad : Nat → Nat) (w : kWd) (S : St) (nT nC nD nM nZ : Nat) (hC : CW D S ad w nT nC) (hN : SN S nT nC nD nM nZ) (a b9 x9 : Int32) : Met l yL_asks wsL_asks ({ frames := 8, cells := 8, slots := 60, locals := 144 }) (kPc D A [.ref (ad 0), .int 6, .int a, .int b9, .int x9] ad w) (kQi D A (fun v ad' w' => (v = stV S a ∧ opK S a = 0 ∧ ad' = ad ∧ CW D (sA (unS S a (stV S a)) 1 (nv a) 2) ad w' nT nC ∧ FrC ad w ad w') ∨ (((v = (-9000007) ∧ opK S a = 1) ∨ (v = (-9000008) ∧ opK S a = 2)) ∧ ad' = ad ∧ w' = w))) 8 60 A := by
  refine va_MetW (hh := [(0, 115, 116, 43), (0, 115, 121, 46), (0, 115, 126, 49), (0, 115, 131, 52)]) (cc := cL_asks) (maxL := 6) (ret := (some (.int))) (by decide) rfl ?_
  intro p e s m args below meth c s₁ B hml hv
  obtain ⟨rfl, hE, hW0, hI0, hA⟩ := hv
  have hx := B.exec
  have hb := B.bytes
  have hr := B.returns
  have hts := atoms_spec (ws := wsL_asks) B.pre
  have hown : s.vm.findClass RL = some m.cls := findClass_of_methodNamed B.named
  have hlocks := B.notSynchronized
  have hW : kS D A s.heap ad w s.heap [] := ⟨hW0, hI0, va_S.rf, hA⟩
  have hl := lv_entry ([.ref (ad 0), .int 6, .int a, .int b9, .int x9]) (n := 6) (Nat.le_of_ble_eq_true rfl)
  rw [lg_entry_eq]
  generalize (lg_sl ([.ref (ad 0), .int 6, .int a, .int b9, .int x9]) ++ List.replicate (6 - (lg_sl ([.ref (ad 0), .int 6, .int a, .int b9, .int x9])).length) Slot.unset).toArray = ls at hl ⊢
  have hl : lv_has ls 6 [(0, .ref (ad 0)), (1, .int 6), (2, .int a), (3, .int b9), (4, .int x9)] := hl
  have htab : c.exceptionTable.toList = tableOf [(0, 115, 116, 43), (0, 115, 121, 46), (0, 115, 126, 49), (0, 115, 131, 52)] := vx_table (x := yL_asks) B (hts (.codeWith yL_asks cL_asks 6 (some .int) [(0, 115, 116, 43), (0, 115, 121, 46), (0, 115, 126, 49), (0, 115, 131, 52)]) (by decide +kernel))
  refine lv_iload_n hx hb dL_asks_0 rfl (lv_at hl 1 rfl) ?_
  refine lv_if_ne (tgt := 11) hx hb dL_asks_1 (by decide) (fun _ => ?_) (fun c9 => absurd c9 (by decide))
  refine lv_iload_n hx hb dL_asks_11 rfl (lv_at hl 1 rfl) ?_
  refine lv_iconst (v := 1) hx hb dL_asks_12 (by decide) ?_
  refine lv_icmp_ne (tgt := 27) hx hb dL_asks_13 (by decide) (fun _ => ?_) (fun c9 => absurd c9 (by decide))
  refine lv_iload_n hx hb dL_asks_27 rfl (lv_at hl 1 rfl) ?_
  refine lv_iconst (v := 2) hx hb dL_asks_28 (by decide) ?_
  refine lv_icmp_ne (tgt := 41) hx hb dL_asks_29 (by decide) (fun _ => ?_) (fun c9 => absurd c9 (by decide))
  refine lv_iload_n hx hb dL_asks_41 rfl (lv_at hl 1 rfl) ?_
  refine lv_iconst (v := 3) hx hb dL_asks_42 (by decide) ?_
  refine lv_icmp_ne (tgt := 55) hx hb dL_asks_43 (by decide) (fun _ => ?_) (fun c9 => absurd c9 (by decide))
  refine lv_iload_n hx hb dL_asks_55 rfl (lv_at hl 1 rfl) ?_
  refine lv_iconst (v := 4) hx hb dL_asks_56 (by decide) ?_
  refine lv_icmp_ne (tgt := 68) hx hb dL_asks_57 (by decide) (fun _ => ?_) (fun c9 => absurd c9 (by decide))
  refine lv_iload_n hx hb dL_asks_68 rfl (lv_at hl 1 rfl) ?_
  refine lv_iconst (v := 5) hx hb dL_asks_69 (by decide) ?_
  refine lv_icmp_ne (tgt := 82) hx hb dL_asks_70 (by decide) (fun _ => ?_) (fun c9 => absurd c9 (by decide))
  refine lv_iload_n hx hb dL_asks_82 rfl (lv_at hl 1 rfl) ?_
  refine lv_bipush (v := 6) hx hb dL_asks_83 (by decide) ?_
  refine lv_icmp_ne (tgt := 96) hx hb dL_asks_85 (by decide) (fun c9 => absurd (by decide) c9) (fun _ => ?_)
  refine lv_aload_n hx hb dL_asks_88 rfl (lv_at hl 0 rfl) ?_
  refine lv_iload_n hx hb dL_asks_89 rfl (lv_at hl 2 rfl) ?_
  refine kx_i (vx_runV (As := [.int a]) (rest := []) ⟨hx, hb, hml, hown, hts⟩ (k_X5_undo l hnt D A ad w S nT nC nD nM nZ hC hN a) (cwV 1 hts gL_asks_X5_undo rfl rfl rfl (by decide +kernel) ⟨Nat.le_of_ble_eq_true rfl, Nat.le_of_ble_eq_true rfl⟩) (kV hE hW hC.u rfl _) rfl rfl hl.1 rfl (lv_room (Nat.le_of_ble_eq_true rfl)) dL_asks_90 ⟨Nat.le_of_ble_eq_true rfl, Nat.le_of_ble_eq_true rfl⟩) hW (fun E ce q9 H locs hpx hW h1 h2 h3 => ?_) (fun r4 ad1 w2 H5 locs hp3 hW => ?_)
  · rcases hpx with ⟨rfl, hk⟩ | ⟨rfl, hk⟩
    · refine vx_catch hown [] ⟨0, 115, 116, 43⟩ [⟨0, 115, 121, 46⟩, ⟨0, 115, 126, 49⟩, ⟨0, 115, 131, 52⟩] (by rw [htab]; rfl) (fun z hz => absurd hz List.not_mem_nil) rfl (by decide) (hts (.classLink RL 43 "java/lang/IndexOutOfBoundsException") (by decide +kernel)) (va_Nw.use rfl (hE.N 34 rfl)) h1 h2 h3 ?_
      refine W.eq (g2 := F0 m 116 ls [.ref q9]) rfl ?_
      refine lv_astore (lv' := [(5, .ref q9), (0, .ref (ad 0)), (1, .int 6), (2, .int a), (3, .int b9), (4, .int x9)]) hx hb dL_asks_116 hl (by decide) rfl (fun ls hl => ?_)
      refine lv_ldc (v := (-9000007)) hx hb hown (hts (.constant RL 45 ((-9000007))) (by decide +kernel)) dL_asks_118 ?_
      exact ke_i hx hb hr hlocks (show 0 + 8 ≤ 8 by omega) (show 0 + 60 ≤ 60 by omega) dL_asks_120 hW (Or.inr ⟨Or.inl ⟨rfl, hk⟩, rfl, rfl⟩)
    · refine vx_catch hown [⟨0, 115, 116, 43⟩] ⟨0, 115, 121, 46⟩ [⟨0, 115, 126, 49⟩, ⟨0, 115, 131, 52⟩] (by rw [htab]; rfl) (fun z hz => (List.mem_cons.mp hz).elim (fun e9 => by subst e9; exact Or.inr ⟨by decide, "java/lang/IndexOutOfBoundsException", hts (.classLink RL 43 "java/lang/IndexOutOfBoundsException") (by decide +kernel), hE.C 4 rfl⟩) (fun hz => absurd hz List.not_mem_nil)) rfl (by decide) (hts (.classLink RL 46 "java/lang/IllegalStateException") (by decide +kernel)) (va_Nw.use rfl (hE.N 33 rfl)) h1 h2 h3 ?_
      refine W.eq (g2 := F0 m 121 ls [.ref q9]) rfl ?_
      refine lv_astore (lv' := [(5, .ref q9), (0, .ref (ad 0)), (1, .int 6), (2, .int a), (3, .int b9), (4, .int x9)]) hx hb dL_asks_121 hl (by decide) rfl (fun ls hl => ?_)
      refine lv_ldc (v := (-9000008)) hx hb hown (hts (.constant RL 48 ((-9000008))) (by decide +kernel)) dL_asks_123 ?_
      exact ke_i hx hb hr hlocks (show 0 + 8 ≤ 8 by omega) (show 0 + 60 ≤ 60 by omega) dL_asks_125 hW (Or.inr ⟨Or.inr (⟨rfl, hk⟩), rfl, rfl⟩)
  · refine lv_goto (tgt := 115) hx hb dL_asks_93 (by decide) ?_
    exact ke_i hx hb hr hlocks (show 0 + 8 ≤ 8 by omega) (show 0 + 60 ≤ 60 by omega) dL_asks_115 hW (Or.inl hp3)

set_option maxHeartbeats 4000000 in
set_option maxRecDepth 100000 in
/-- k_asks_commit -/
theorem k_asks_commit (l : Launch) (hnt : l.stackTraces = false) (D : va_G) (A : Nat → Prop) (ad : Nat → Nat) (w : kWd) (S : St) (nT nC nD nM nZ : Nat) (hC : CW D S ad w nT nC) (hN : SN S nT nC nD nM nZ) (a b9 x9 : Int32) : Met l yL_asks wsL_asks ({ frames := 8, cells := 8, slots := 60, locals := 143 }) (kPc D A [.ref (ad 0), .int 7, .int a, .int b9, .int x9] ad w) (kQi D A (fun v ad' w' => (v = S 11 0 + 1 ∧ opK S a = 0 ∧ ad' = ad ∧ CW D (cmM S (nv a)) ad w' nT nC ∧ FrC ad w ad w') ∨ (((v = (-9000007) ∧ opK S a = 1) ∨ (v = (-9000008) ∧ opK S a = 2)) ∧ ad' = ad ∧ w' = w))) 8 60 A := by
  refine va_MetW (hh := [(0, 115, 116, 43), (0, 115, 121, 46), (0, 115, 126, 49), (0, 115, 131, 52)]) (cc := cL_asks) (maxL := 6) (ret := (some (.int))) (by decide) rfl ?_
  intro p e s m args below meth c s₁ B hml hv
  obtain ⟨rfl, hE, hW0, hI0, hA⟩ := hv
  have hx := B.exec
  have hb := B.bytes
  have hr := B.returns
  have hts := atoms_spec (ws := wsL_asks) B.pre
  have hown : s.vm.findClass RL = some m.cls := findClass_of_methodNamed B.named
  have hlocks := B.notSynchronized
  have hW : kS D A s.heap ad w s.heap [] := ⟨hW0, hI0, va_S.rf, hA⟩
  have hl := lv_entry ([.ref (ad 0), .int 7, .int a, .int b9, .int x9]) (n := 6) (Nat.le_of_ble_eq_true rfl)
  rw [lg_entry_eq]
  generalize (lg_sl ([.ref (ad 0), .int 7, .int a, .int b9, .int x9]) ++ List.replicate (6 - (lg_sl ([.ref (ad 0), .int 7, .int a, .int b9, .int x9])).length) Slot.unset).toArray = ls at hl ⊢
  have hl : lv_has ls 6 [(0, .ref (ad 0)), (1, .int 7), (2, .int a), (3, .int b9), (4, .int x9)] := hl
  have htab : c.exceptionTable.toList = tableOf [(0, 115, 116, 43), (0, 115, 121, 46), (0, 115, 126, 49), (0, 115, 131, 52)] := vx_table (x := yL_asks) B (hts (.codeWith yL_asks cL_asks 6 (some .int) [(0, 115, 116, 43), (0, 115, 121, 46), (0, 115, 126, 49), (0, 115, 131, 52)]) (by decide +kernel))
  refine lv_iload_n hx hb dL_asks_0 rfl (lv_at hl 1 rfl) ?_
  refine lv_if_ne (tgt := 11) hx hb dL_asks_1 (by decide) (fun _ => ?_) (fun c9 => absurd c9 (by decide))
  refine lv_iload_n hx hb dL_asks_11 rfl (lv_at hl 1 rfl) ?_
  refine lv_iconst (v := 1) hx hb dL_asks_12 (by decide) ?_
  refine lv_icmp_ne (tgt := 27) hx hb dL_asks_13 (by decide) (fun _ => ?_) (fun c9 => absurd c9 (by decide))
  refine lv_iload_n hx hb dL_asks_27 rfl (lv_at hl 1 rfl) ?_
  refine lv_iconst (v := 2) hx hb dL_asks_28 (by decide) ?_
  refine lv_icmp_ne (tgt := 41) hx hb dL_asks_29 (by decide) (fun _ => ?_) (fun c9 => absurd c9 (by decide))
  refine lv_iload_n hx hb dL_asks_41 rfl (lv_at hl 1 rfl) ?_
  refine lv_iconst (v := 3) hx hb dL_asks_42 (by decide) ?_
  refine lv_icmp_ne (tgt := 55) hx hb dL_asks_43 (by decide) (fun _ => ?_) (fun c9 => absurd c9 (by decide))
  refine lv_iload_n hx hb dL_asks_55 rfl (lv_at hl 1 rfl) ?_
  refine lv_iconst (v := 4) hx hb dL_asks_56 (by decide) ?_
  refine lv_icmp_ne (tgt := 68) hx hb dL_asks_57 (by decide) (fun _ => ?_) (fun c9 => absurd c9 (by decide))
  refine lv_iload_n hx hb dL_asks_68 rfl (lv_at hl 1 rfl) ?_
  refine lv_iconst (v := 5) hx hb dL_asks_69 (by decide) ?_
  refine lv_icmp_ne (tgt := 82) hx hb dL_asks_70 (by decide) (fun _ => ?_) (fun c9 => absurd c9 (by decide))
  refine lv_iload_n hx hb dL_asks_82 rfl (lv_at hl 1 rfl) ?_
  refine lv_bipush (v := 6) hx hb dL_asks_83 (by decide) ?_
  refine lv_icmp_ne (tgt := 96) hx hb dL_asks_85 (by decide) (fun _ => ?_) (fun c9 => absurd c9 (by decide))
  refine lv_iload_n hx hb dL_asks_96 rfl (lv_at hl 1 rfl) ?_
  refine lv_bipush (v := 7) hx hb dL_asks_97 (by decide) ?_
  refine lv_icmp_ne (tgt := 110) hx hb dL_asks_99 (by decide) (fun c9 => absurd (by decide) c9) (fun _ => ?_)
  refine lv_aload_n hx hb dL_asks_102 rfl (lv_at hl 0 rfl) ?_
  refine lv_iload_n hx hb dL_asks_103 rfl (lv_at hl 2 rfl) ?_
  refine kx_i (vx_runV (As := [.int a]) (rest := []) ⟨hx, hb, hml, hown, hts⟩ (k_X5_commit l hnt D A ad w S nT nC nD nM nZ hC hN a) (cwV 1 hts gL_asks_X5_commit rfl rfl rfl (by decide +kernel) ⟨Nat.le_of_ble_eq_true rfl, Nat.le_of_ble_eq_true rfl⟩) (kV hE hW hC.u rfl _) rfl rfl hl.1 rfl (lv_room (Nat.le_of_ble_eq_true rfl)) dL_asks_104 ⟨Nat.le_of_ble_eq_true rfl, Nat.le_of_ble_eq_true rfl⟩) hW (fun E ce q9 H locs hpx hW h1 h2 h3 => ?_) (fun r4 ad1 w2 H5 locs hp3 hW => ?_)
  · rcases hpx with ⟨rfl, hk⟩ | ⟨rfl, hk⟩
    · refine vx_catch hown [] ⟨0, 115, 116, 43⟩ [⟨0, 115, 121, 46⟩, ⟨0, 115, 126, 49⟩, ⟨0, 115, 131, 52⟩] (by rw [htab]; rfl) (fun z hz => absurd hz List.not_mem_nil) rfl (by decide) (hts (.classLink RL 43 "java/lang/IndexOutOfBoundsException") (by decide +kernel)) (va_Nw.use rfl (hE.N 34 rfl)) h1 h2 h3 ?_
      refine W.eq (g2 := F0 m 116 ls [.ref q9]) rfl ?_
      refine lv_astore (lv' := [(5, .ref q9), (0, .ref (ad 0)), (1, .int 7), (2, .int a), (3, .int b9), (4, .int x9)]) hx hb dL_asks_116 hl (by decide) rfl (fun ls hl => ?_)
      refine lv_ldc (v := (-9000007)) hx hb hown (hts (.constant RL 45 ((-9000007))) (by decide +kernel)) dL_asks_118 ?_
      exact ke_i hx hb hr hlocks (show 0 + 8 ≤ 8 by omega) (show 0 + 60 ≤ 60 by omega) dL_asks_120 hW (Or.inr ⟨Or.inl ⟨rfl, hk⟩, rfl, rfl⟩)
    · refine vx_catch hown [⟨0, 115, 116, 43⟩] ⟨0, 115, 121, 46⟩ [⟨0, 115, 126, 49⟩, ⟨0, 115, 131, 52⟩] (by rw [htab]; rfl) (fun z hz => (List.mem_cons.mp hz).elim (fun e9 => by subst e9; exact Or.inr ⟨by decide, "java/lang/IndexOutOfBoundsException", hts (.classLink RL 43 "java/lang/IndexOutOfBoundsException") (by decide +kernel), hE.C 4 rfl⟩) (fun hz => absurd hz List.not_mem_nil)) rfl (by decide) (hts (.classLink RL 46 "java/lang/IllegalStateException") (by decide +kernel)) (va_Nw.use rfl (hE.N 33 rfl)) h1 h2 h3 ?_
      refine W.eq (g2 := F0 m 121 ls [.ref q9]) rfl ?_
      refine lv_astore (lv' := [(5, .ref q9), (0, .ref (ad 0)), (1, .int 7), (2, .int a), (3, .int b9), (4, .int x9)]) hx hb dL_asks_121 hl (by decide) rfl (fun ls hl => ?_)
      refine lv_ldc (v := (-9000008)) hx hb hown (hts (.constant RL 48 ((-9000008))) (by decide +kernel)) dL_asks_123 ?_
      exact ke_i hx hb hr hlocks (show 0 + 8 ≤ 8 by omega) (show 0 + 60 ≤ 60 by omega) dL_asks_125 hW (Or.inr ⟨Or.inr (⟨rfl, hk⟩), rfl, rfl⟩)
  · refine lv_goto (tgt := 115) hx hb dL_asks_107 (by decide) ?_
    exact ke_i hx hb hr hlocks (show 0 + 8 ≤ 8 by omega) (show 0 + 60 ≤ 60 by omega) dL_asks_115 hW (Or.inl hp3)

set_option maxHeartbeats 4000000 in
set_option maxRecDepth 100000 in
/-- k_asks_setSpace -/
theorem k_asks_setSpace (l : Launch) (hnt : l.stackTraces = false) (D : va_G) (A : Nat → Prop) (ad : Nat → Nat) (w : kWd) (S : St) (nT nC nD nM nZ : Nat) (hC : CW D S ad w nT nC) (hN : SN S nT nC nD nM nZ) (a b9 x9 : Int32) : Met l yL_asks wsL_asks ({ frames := 7, cells := 8, slots := 60, locals := 122 }) (kPc D A [.ref (ad 0), .int 8, .int a, .int b9, .int x9] ad w) (kQi D A (fun v ad' w' => (v = S 10 0 ∧ ssK S a = 0 ∧ ad' = ad ∧ CW D (sS S 10 a) ad w' nT nC ∧ FrC ad w ad w') ∨ (((v = (-9000009) ∧ ssK S a = 1) ∨ (v = (-9000008) ∧ ssK S a = 2)) ∧ ad' = ad ∧ w' = w))) 8 60 A := by
  refine va_MetW (hh := [(0, 115, 116, 43), (0, 115, 121, 46), (0, 115, 126, 49), (0, 115, 131, 52)]) (cc := cL_asks) (maxL := 6) (ret := (some (.int))) (by decide) rfl ?_
  intro p e s m args below meth c s₁ B hml hv
  obtain ⟨rfl, hE, hW0, hI0, hA⟩ := hv
  have hx := B.exec
  have hb := B.bytes
  have hr := B.returns
  have hts := atoms_spec (ws := wsL_asks) B.pre
  have hown : s.vm.findClass RL = some m.cls := findClass_of_methodNamed B.named
  have hlocks := B.notSynchronized
  have hW : kS D A s.heap ad w s.heap [] := ⟨hW0, hI0, va_S.rf, hA⟩
  have hl := lv_entry ([.ref (ad 0), .int 8, .int a, .int b9, .int x9]) (n := 6) (Nat.le_of_ble_eq_true rfl)
  rw [lg_entry_eq]
  generalize (lg_sl ([.ref (ad 0), .int 8, .int a, .int b9, .int x9]) ++ List.replicate (6 - (lg_sl ([.ref (ad 0), .int 8, .int a, .int b9, .int x9])).length) Slot.unset).toArray = ls at hl ⊢
  have hl : lv_has ls 6 [(0, .ref (ad 0)), (1, .int 8), (2, .int a), (3, .int b9), (4, .int x9)] := hl
  have htab : c.exceptionTable.toList = tableOf [(0, 115, 116, 43), (0, 115, 121, 46), (0, 115, 126, 49), (0, 115, 131, 52)] := vx_table (x := yL_asks) B (hts (.codeWith yL_asks cL_asks 6 (some .int) [(0, 115, 116, 43), (0, 115, 121, 46), (0, 115, 126, 49), (0, 115, 131, 52)]) (by decide +kernel))
  refine lv_iload_n hx hb dL_asks_0 rfl (lv_at hl 1 rfl) ?_
  refine lv_if_ne (tgt := 11) hx hb dL_asks_1 (by decide) (fun _ => ?_) (fun c9 => absurd c9 (by decide))
  refine lv_iload_n hx hb dL_asks_11 rfl (lv_at hl 1 rfl) ?_
  refine lv_iconst (v := 1) hx hb dL_asks_12 (by decide) ?_
  refine lv_icmp_ne (tgt := 27) hx hb dL_asks_13 (by decide) (fun _ => ?_) (fun c9 => absurd c9 (by decide))
  refine lv_iload_n hx hb dL_asks_27 rfl (lv_at hl 1 rfl) ?_
  refine lv_iconst (v := 2) hx hb dL_asks_28 (by decide) ?_
  refine lv_icmp_ne (tgt := 41) hx hb dL_asks_29 (by decide) (fun _ => ?_) (fun c9 => absurd c9 (by decide))
  refine lv_iload_n hx hb dL_asks_41 rfl (lv_at hl 1 rfl) ?_
  refine lv_iconst (v := 3) hx hb dL_asks_42 (by decide) ?_
  refine lv_icmp_ne (tgt := 55) hx hb dL_asks_43 (by decide) (fun _ => ?_) (fun c9 => absurd c9 (by decide))
  refine lv_iload_n hx hb dL_asks_55 rfl (lv_at hl 1 rfl) ?_
  refine lv_iconst (v := 4) hx hb dL_asks_56 (by decide) ?_
  refine lv_icmp_ne (tgt := 68) hx hb dL_asks_57 (by decide) (fun _ => ?_) (fun c9 => absurd c9 (by decide))
  refine lv_iload_n hx hb dL_asks_68 rfl (lv_at hl 1 rfl) ?_
  refine lv_iconst (v := 5) hx hb dL_asks_69 (by decide) ?_
  refine lv_icmp_ne (tgt := 82) hx hb dL_asks_70 (by decide) (fun _ => ?_) (fun c9 => absurd c9 (by decide))
  refine lv_iload_n hx hb dL_asks_82 rfl (lv_at hl 1 rfl) ?_
  refine lv_bipush (v := 6) hx hb dL_asks_83 (by decide) ?_
  refine lv_icmp_ne (tgt := 96) hx hb dL_asks_85 (by decide) (fun _ => ?_) (fun c9 => absurd c9 (by decide))
  refine lv_iload_n hx hb dL_asks_96 rfl (lv_at hl 1 rfl) ?_
  refine lv_bipush (v := 7) hx hb dL_asks_97 (by decide) ?_
  refine lv_icmp_ne (tgt := 110) hx hb dL_asks_99 (by decide) (fun _ => ?_) (fun c9 => absurd c9 (by decide))
  refine lv_aload_n hx hb dL_asks_110 rfl (lv_at hl 0 rfl) ?_
  refine lv_iload_n hx hb dL_asks_111 rfl (lv_at hl 2 rfl) ?_
  refine kx_i (vx_runV (As := [.int a]) (rest := []) ⟨hx, hb, hml, hown, hts⟩ (k_X5_setSpace l hnt D A ad w S nT nC nD nM nZ hC hN a) (cwV 1 hts gL_asks_X5_setSpace rfl rfl rfl (by decide +kernel) ⟨Nat.le_of_ble_eq_true rfl, Nat.le_of_ble_eq_true rfl⟩) (kV hE hW hC.u rfl _) rfl rfl hl.1 rfl (lv_room (Nat.le_of_ble_eq_true rfl)) dL_asks_112 ⟨Nat.le_of_ble_eq_true rfl, Nat.le_of_ble_eq_true rfl⟩) hW (fun E ce q9 H locs hpx hW h1 h2 h3 => ?_) (fun r4 ad1 w2 H5 locs hp3 hW => ?_)
  · rcases hpx with ⟨rfl, hk⟩ | ⟨rfl, hk⟩
    · refine vx_catch hown [⟨0, 115, 116, 43⟩, ⟨0, 115, 121, 46⟩] ⟨0, 115, 126, 49⟩ [⟨0, 115, 131, 52⟩] (by rw [htab]; rfl) (fun z hz => (List.mem_cons.mp hz).elim (fun e9 => by subst e9; exact Or.inr ⟨by decide, "java/lang/IndexOutOfBoundsException", hts (.classLink RL 43 "java/lang/IndexOutOfBoundsException") (by decide +kernel), hE.C 1 rfl⟩) (fun hz => (List.mem_cons.mp hz).elim (fun e9 => by subst e9; exact Or.inr ⟨by decide, "java/lang/IllegalStateException", hts (.classLink RL 46 "java/lang/IllegalStateException") (by decide +kernel), hE.C 0 rfl⟩) (fun hz => absurd hz List.not_mem_nil))) rfl (by decide) (hts (.classLink RL 49 "java/lang/IllegalArgumentException") (by decide +kernel)) (va_Nw.use rfl (hE.N 32 rfl)) h1 h2 h3 ?_
      refine W.eq (g2 := F0 m 126 ls [.ref q9]) rfl ?_
      refine lv_astore (lv' := [(5, .ref q9), (0, .ref (ad 0)), (1, .int 8), (2, .int a), (3, .int b9), (4, .int x9)]) hx hb dL_asks_126 hl (by decide) rfl (fun ls hl => ?_)
      refine lv_ldc (v := (-9000009)) hx hb hown (hts (.constant RL 51 ((-9000009))) (by decide +kernel)) dL_asks_128 ?_
      exact ke_i hx hb hr hlocks (show 0 + 8 ≤ 8 by omega) (show 0 + 60 ≤ 60 by omega) dL_asks_130 hW (Or.inr ⟨Or.inl ⟨rfl, hk⟩, rfl, rfl⟩)
    · refine vx_catch hown [⟨0, 115, 116, 43⟩] ⟨0, 115, 121, 46⟩ [⟨0, 115, 126, 49⟩, ⟨0, 115, 131, 52⟩] (by rw [htab]; rfl) (fun z hz => (List.mem_cons.mp hz).elim (fun e9 => by subst e9; exact Or.inr ⟨by decide, "java/lang/IndexOutOfBoundsException", hts (.classLink RL 43 "java/lang/IndexOutOfBoundsException") (by decide +kernel), hE.C 4 rfl⟩) (fun hz => absurd hz List.not_mem_nil)) rfl (by decide) (hts (.classLink RL 46 "java/lang/IllegalStateException") (by decide +kernel)) (va_Nw.use rfl (hE.N 33 rfl)) h1 h2 h3 ?_
      refine W.eq (g2 := F0 m 121 ls [.ref q9]) rfl ?_
      refine lv_astore (lv' := [(5, .ref q9), (0, .ref (ad 0)), (1, .int 8), (2, .int a), (3, .int b9), (4, .int x9)]) hx hb dL_asks_121 hl (by decide) rfl (fun ls hl => ?_)
      refine lv_ldc (v := (-9000008)) hx hb hown (hts (.constant RL 48 ((-9000008))) (by decide +kernel)) dL_asks_123 ?_
      exact ke_i hx hb hr hlocks (show 0 + 8 ≤ 8 by omega) (show 0 + 60 ≤ 60 by omega) dL_asks_125 hW (Or.inr ⟨Or.inr (⟨rfl, hk⟩), rfl, rfl⟩)
  · exact ke_i hx hb hr hlocks (show 0 + 8 ≤ 8 by omega) (show 0 + 60 ≤ 60 by omega) dL_asks_115 hW (Or.inl hp3)

set_option maxHeartbeats 4000000 in
set_option maxRecDepth 100000 in
/-- k_L_dirty -/
theorem k_L_dirty (l : Launch) (hnt : l.stackTraces = false) (D : va_G) (A : Nat → Prop) (ad : Nat → Nat) (w : kWd) (S : St) (nT nC nD nM nZ : Nat) (hC : CW D S ad w nT nC) (hN : SN S nT nC nD nM nZ) (aF : Nat → Int32) (hA1 : w 2101 = some (.inl (D.1 100, 60, .inl aF))) (hAF : AF S nT aF) (b : Nat) (hb3 : b < 3) : Met l yL_dirty wsL_dirty ({ frames := 8, cells := 32, slots := 240, locals := 146 }) (kPc D A [.ref (ad 0), .ref (ad 2101), .int (nI b)] ad w) (kQi D A (fun v ad' w' => v = dyN S b ∧ ad' = ad ∧ w' = w)) 32 240 A := by
  refine Met.ofW (cc := cL_dirty) (maxL := 6) (ret := (some (.int))) (by decide) rfl ?_
  intro p e s m args below meth c s₁ B hml hv
  obtain ⟨rfl, hE, hW0, hI0, hA⟩ := hv
  have hx := B.exec
  have hb := B.bytes
  have hr := B.returns
  have hts := atoms_spec (ws := wsL_dirty) B.pre
  have hown : s.vm.findClass RL = some m.cls := findClass_of_methodNamed B.named
  have hlocks := B.notSynchronized
  have hW : kS D A s.heap ad w s.heap [] := ⟨hW0, hI0, va_S.rf, hA⟩
  have hl := lv_entry ([.ref (ad 0), .ref (ad 2101), .int (nI b)]) (n := 6) (Nat.le_of_ble_eq_true rfl)
  rw [lg_entry_eq]
  generalize (lg_sl ([.ref (ad 0), .ref (ad 2101), .int (nI b)]) ++ List.replicate (6 - (lg_sl ([.ref (ad 0), .ref (ad 2101), .int (nI b)])).length) Slot.unset).toArray = ls at hl ⊢
  have hl : lv_has ls 6 [(0, .ref (ad 0)), (1, .ref (ad 2101)), (2, .int (nI b))] := hl
  have h60 := hN.2.2.2.2.2.1
  refine lv_iconst (v := 0) hx hb dL_dirty_0 (by decide) ?_
  refine lv_istore_n (lv' := [(3, .int 0), (0, .ref (ad 0)), (1, .ref (ad 2101)), (2, .int (nI b))]) hx hb dL_dirty_1 rfl hl (by decide) rfl (fun ls hl => ?_)
  refine lv_iconst (v := 0) hx hb dL_dirty_2 (by decide) ?_
  refine lv_istore (lv' := [(4, .int 0), (3, .int 0), (0, .ref (ad 0)), (1, .ref (ad 2101)), (2, .int (nI b))]) hx hb dL_dirty_3 hl (by decide) rfl (fun ls hl => ?_)
  refine lv_iload hx hb dL_dirty_5 (lv_at hl 0 rfl) ?_
  refine lv_iconst (v := 2) hx hb dL_dirty_7 (by decide) ?_
  refine lv_icmp_ge (tgt := 58) hx hb dL_dirty_8 (by decide) (fun c9 => absurd c9 (by decide)) (fun _ => ?_)
  refine lv_aload_n hx hb dL_dirty_11 rfl (lv_at hl 2 rfl) ?_
  refine lv_iload_n hx hb dL_dirty_12 rfl (lv_at hl 4 rfl) ?_
  refine lv_iload hx hb dL_dirty_13 (lv_at hl 0 rfl) ?_
  refine kx_i (vx_runV (As := [.int (nI b), .int 0]) (rest := []) ⟨hx, hb, hml, hown, hts⟩ (k_X5_slotOf l hnt D A ad w S nT nC nD nM nZ hC hN (nI b) 0) (cwV 2 hts gL_dirty_X5_slotOf rfl rfl rfl (by decide +kernel) ⟨Nat.le_of_ble_eq_true rfl, Nat.le_of_ble_eq_true rfl⟩) (kV hE hW hC.u rfl _) rfl rfl hl.1 rfl (lv_room (Nat.le_of_ble_eq_true rfl)) dL_dirty_15 ⟨show 0 + 8 ≤ 32 by omega, show 0 + 60 ≤ 240 by omega⟩) hW (fun E ce q9 H locs hpx _ _ _ _ => (nf_so hb3 (k := 0) (by decide) hpx).elim) (fun r4 ad1 w2 H5 locs hp3 hW => ?_)
  obtain ⟨e6, -, e7, e8⟩ := hp3
  rw [e7, e8] at hW
  subst e6
  rw [show S 8 (nv (2 * nI b + 0)) = S 8 (2 * b) from by rw [show nv (2 * nI b + 0) = 2 * b from nv_so hb3 (k := 0) (by decide)]]
  refine lv_istore (lv' := [(5, .int (S 8 (2 * b))), (4, .int 0), (3, .int 0), (0, .ref (ad 0)), (1, .ref (ad 2101)), (2, .int (nI b))]) hx hb dL_dirty_18 hl (by decide) rfl (fun ls hl => ?_)
  refine lv_iload_n hx hb dL_dirty_20 rfl (lv_at hl 2 rfl) ?_
  refine W_joinC (D := D) (A := A) (w := w) (ad := ad) (P := fun v => v = bI (endP S (2 * b))) (pj := 50) (rj := [.int 0]) (lj := ls) (c1 := 0 + 8 + 8) (s1 := 0 + 60 + 60) (fun v9 H9 locs hv9 hW => ?_) (fun J50 => ?_)
  · subst hv9
    refine lv_iadd hx hb dL_dirty_50 ?_
    refine lv_istore_n (lv' := [(3, .int (0 + (bI (endP S (2 * b))))), (5, .int (S 8 (2 * b))), (4, .int 0), (0, .ref (ad 0)), (1, .ref (ad 2101)), (2, .int (nI b))]) hx hb dL_dirty_51 rfl hl (by decide) rfl (fun ls hl => ?_)
    rw [show (0 + (bI (endP S (2 * b)))) = bI (endP S (2 * b)) from Int32.zero_add _] at hl
    refine lv_iinc (v := 1) (lv' := [(4, .int (1)), (3, .int (bI (endP S (2 * b)))), (5, .int (S 8 (2 * b))), (0, .ref (ad 0)), (1, .ref (ad 2101)), (2, .int (nI b))]) hx hb dL_dirty_52 hl (k := 2) rfl (by decide) (by decide) rfl (fun ls hl => ?_)
    refine lv_goto (tgt := 5) hx hb dL_dirty_55 (by decide) ?_
    refine lv_iload hx hb dL_dirty_5 (lv_at hl 0 rfl) ?_
    refine lv_iconst (v := 2) hx hb dL_dirty_7 (by decide) ?_
    refine lv_icmp_ge (tgt := 58) hx hb dL_dirty_8 (by decide) (fun c9 => absurd c9 (by decide)) (fun _ => ?_)
    refine lv_aload_n hx hb dL_dirty_11 rfl (lv_at hl 3 rfl) ?_
    refine lv_iload_n hx hb dL_dirty_12 rfl (lv_at hl 5 rfl) ?_
    refine lv_iload hx hb dL_dirty_13 (lv_at hl 0 rfl) ?_
    refine kx_i (vx_runV (As := [.int (nI b), .int (1)]) (rest := []) ⟨hx, hb, hml, hown, hts⟩ (k_X5_slotOf l hnt D A ad w S nT nC nD nM nZ hC hN (nI b) 1) (cwV 2 hts gL_dirty_X5_slotOf rfl rfl rfl (by decide +kernel) ⟨Nat.le_of_ble_eq_true rfl, Nat.le_of_ble_eq_true rfl⟩) (kV hE hW hC.u rfl _) rfl rfl hl.1 rfl (lv_room (Nat.le_of_ble_eq_true rfl)) dL_dirty_15 ⟨show 0 + 8 + 8 + 8 ≤ 32 by omega, show 0 + 60 + 60 + 60 ≤ 240 by omega⟩) hW (fun E ce q9 H locs hpx _ _ _ _ => (nf_so hb3 (k := 1) (by decide) hpx).elim) (fun r13 ad10 w11 H14 locs hp12 hW => ?_)
    obtain ⟨e15, -, e16, e17⟩ := hp12
    rw [e16, e17] at hW
    subst e15
    rw [show S 8 (nv (2 * nI b + 1)) = S 8 (2 * b + 1) from by rw [show nv (2 * nI b + 1) = 2 * b + 1 from nv_so hb3 (k := 1) (by decide)]]
    refine lv_istore (lv' := [(5, .int (S 8 (2 * b + 1))), (4, .int (1)), (3, .int (bI (endP S (2 * b)))), (0, .ref (ad 0)), (1, .ref (ad 2101)), (2, .int (nI b))]) hx hb dL_dirty_18 hl (by decide) rfl (fun ls hl => ?_)
    refine lv_iload_n hx hb dL_dirty_20 rfl (lv_at hl 2 rfl) ?_
    refine W_joinC (D := D) (A := A) (w := w) (ad := ad) (P := fun v => v = bI (endP S (2 * b + 1))) (pj := 50) (rj := [.int (bI (endP S (2 * b)))]) (lj := ls) (c1 := 0 + 8 + 8 + 8 + 8) (s1 := 0 + 60 + 60 + 60 + 60) (fun v9 H18 locs hv9 hW => ?_) (fun J50 => ?_)
    · subst hv9
      refine lv_iadd hx hb dL_dirty_50 ?_
      refine lv_istore_n (lv' := [(3, .int ((bI (endP S (2 * b))) + (bI (endP S (2 * b + 1))))), (5, .int (S 8 (2 * b + 1))), (4, .int (1)), (0, .ref (ad 0)), (1, .ref (ad 2101)), (2, .int (nI b))]) hx hb dL_dirty_51 rfl hl (by decide) rfl (fun ls hl => ?_)
      have hl : lv_has ls 6 [(3, .int (dyN S b)), (5, .int (S 8 (2 * b + 1))), (4, .int (1)), (0, .ref (ad 0)), (1, .ref (ad 2101)), (2, .int (nI b))] := hl
      refine lv_iinc (v := 2) (lv' := [(4, .int (2)), (3, .int (dyN S b)), (5, .int (S 8 (2 * b + 1))), (0, .ref (ad 0)), (1, .ref (ad 2101)), (2, .int (nI b))]) hx hb dL_dirty_52 hl (k := 2) rfl (by decide) (by decide) rfl (fun ls hl => ?_)
      refine lv_goto (tgt := 5) hx hb dL_dirty_55 (by decide) ?_
      refine lv_iload hx hb dL_dirty_5 (lv_at hl 0 rfl) ?_
      refine lv_iconst (v := 2) hx hb dL_dirty_7 (by decide) ?_
      refine lv_icmp_ge (tgt := 58) hx hb dL_dirty_8 (by decide) (fun _ => ?_) (fun c9 => absurd (by decide) c9)
      refine lv_iload_n hx hb dL_dirty_58 rfl (lv_at hl 1 rfl) ?_
      exact ke_i hx hb hr hlocks (show 0 + 8 + 8 + 8 + 8 ≤ 32 by omega) (show 0 + 60 + 60 + 60 + 60 ≤ 240 by omega) dL_dirty_59 hW (⟨rfl, rfl, rfl⟩)
    · rcases hN.sl (i := 2 * b + 1) (by omega) with h8 | ⟨t, ht, h8⟩
      · rw [h8] at hl
        refine lv_iload hx hb dL_dirty_21 (lv_at hl 0 rfl) ?_
        refine lv_if_lt (tgt := 49) hx hb dL_dirty_23 (by decide) (fun _ => ?_) (fun c9 => absurd (by decide) c9)
        refine lv_iconst (v := 0) hx hb dL_dirty_49 (by decide) ?_
        exact J50 _ _ _ _ _ (by omega) (by omega) ((bI_0 (fun q => q.1 h8)).symm) hW
      · have hl0 := hl
        rw [h8] at hl
        refine lv_iload hx hb dL_dirty_21 (lv_at hl 0 rfl) ?_
        refine lv_if_lt (tgt := 49) hx hb dL_dirty_23 (by decide) (fun c9 => absurd c9 (nI_pos (by omega))) (fun _ => ?_)
        refine lv_aload_n hx hb dL_dirty_26 rfl (lv_at hl 4 rfl) ?_
        refine lv_iload hx hb dL_dirty_27 (lv_at hl 0 rfl) ?_
        refine kk_i (va_runS (As := [.ref (ad 2101), .int (nI t)]) (rest := [.int (bI (endP S (2 * b)))]) ⟨hx, hb, hml, hown, hts⟩ (k_L_isActive l hnt D A ad w S nT nC nD nM nZ hN aF hA1 hAF ((nI t)) (Or.inr ⟨t, ht, rfl⟩)) (va_cwS 2 hts gL_dirty_L_isActive rfl rfl rfl (by decide +kernel) ⟨Nat.le_of_ble_eq_true rfl, Nat.le_of_ble_eq_true rfl⟩) (kSt hE hW _) rfl rfl hl.1 rfl (lv_room (Nat.le_of_ble_eq_true rfl)) dL_dirty_29 ⟨show 0 + 8 + 8 + 8 + 0 ≤ 32 by omega, show 0 + 60 + 60 + 60 + 0 ≤ 240 by omega⟩) hW (fun r22 ad19 w20 H23 locs hp21 hW => ?_)
        obtain ⟨e24, e25, e26⟩ := hp21
        rw [e25, e26] at hW
        subst e24
        rw [isA_t (show t < 60 by omega)]
        refine lv_if_ne (tgt := 49) hx hb dL_dirty_32 (by decide) (fun c27 => ?_) (fun c27 => ?_)
        · refine lv_iconst (v := 0) hx hb dL_dirty_49 (by decide) ?_
          exact J50 _ _ _ _ _ (by omega) (by omega) ((bI_0 (fun q => q.2.1 (by rw [h8, actP_t (by omega)]; exact bI_t c27))).symm) hW
        · refine lv_aload_n hx hb dL_dirty_35 rfl (lv_at hl 3 rfl) ?_
          refine lv_iload_n hx hb dL_dirty_36 rfl (lv_at hl 5 rfl) ?_
          refine lv_iload hx hb dL_dirty_37 (lv_at hl 1 rfl) ?_
          refine kx_i (vx_runV (As := [.int (nI b), .int (1)]) (rest := [.int (bI (endP S (2 * b)))]) ⟨hx, hb, hml, hown, hts⟩ (k_X5_isMarked l hnt D A ad w S nT nC nD nM nZ hC hN (nI b) 1) (cwV 2 hts gL_dirty_X5_isMarked rfl rfl rfl (by decide +kernel) ⟨Nat.le_of_ble_eq_true rfl, Nat.le_of_ble_eq_true rfl⟩) (kV hE hW hC.u rfl _) rfl rfl hl.1 rfl (lv_room (Nat.le_of_ble_eq_true rfl)) dL_dirty_39 ⟨show 0 + 8 + 8 + 8 + 0 + 8 ≤ 32 by omega, show 0 + 60 + 60 + 60 + 0 + 60 ≤ 240 by omega⟩) hW (fun E ce q9 H locs hpx _ _ _ _ => (nf_so hb3 (k := 1) (by decide) hpx).elim) (fun r31 ad28 w29 H32 locs hp30 hW => ?_)
          obtain ⟨e33, -, e34, e35⟩ := hp30
          rw [e34, e35] at hW
          subst e33
          rw [show S 9 (nv (2 * nI b + 1)) = S 9 (2 * b + 1) from by rw [show nv (2 * nI b + 1) = 2 * b + 1 from nv_so hb3 (k := 1) (by decide)]]
          refine lv_if_ne (tgt := 49) hx hb dL_dirty_42 (by decide) (fun c36 => ?_) (fun c36 => ?_)
          · refine lv_iconst (v := 0) hx hb dL_dirty_49 (by decide) ?_
            exact J50 _ _ _ _ _ (by omega) (by omega) ((bI_0 (fun q => c36 q.2.2)).symm) hW
          · refine lv_iconst (v := 1) hx hb dL_dirty_45 (by decide) ?_
            refine lv_goto (tgt := 50) hx hb dL_dirty_46 (by decide) ?_
            exact J50 _ _ _ _ _ (by omega) (by omega) ((bI_1 ⟨by rw [h8]; exact nI_nm1 (by omega), by rw [h8, actP_t (by omega)]; exact bI_f c27, c36⟩).symm) hW
  · rcases hN.sl (i := 2 * b) (by omega) with h8 | ⟨t, ht, h8⟩
    · rw [h8] at hl
      refine lv_iload hx hb dL_dirty_21 (lv_at hl 0 rfl) ?_
      refine lv_if_lt (tgt := 49) hx hb dL_dirty_23 (by decide) (fun _ => ?_) (fun c9 => absurd (by decide) c9)
      refine lv_iconst (v := 0) hx hb dL_dirty_49 (by decide) ?_
      exact J50 _ _ _ _ _ (by omega) (by omega) ((bI_0 (fun q => q.1 h8)).symm) hW
    · have hl0 := hl
      rw [h8] at hl
      refine lv_iload hx hb dL_dirty_21 (lv_at hl 0 rfl) ?_
      refine lv_if_lt (tgt := 49) hx hb dL_dirty_23 (by decide) (fun c9 => absurd c9 (nI_pos (by omega))) (fun _ => ?_)
      refine lv_aload_n hx hb dL_dirty_26 rfl (lv_at hl 4 rfl) ?_
      refine lv_iload hx hb dL_dirty_27 (lv_at hl 0 rfl) ?_
      refine kk_i (va_runS (As := [.ref (ad 2101), .int (nI t)]) (rest := [.int 0]) ⟨hx, hb, hml, hown, hts⟩ (k_L_isActive l hnt D A ad w S nT nC nD nM nZ hN aF hA1 hAF ((nI t)) (Or.inr ⟨t, ht, rfl⟩)) (va_cwS 2 hts gL_dirty_L_isActive rfl rfl rfl (by decide +kernel) ⟨Nat.le_of_ble_eq_true rfl, Nat.le_of_ble_eq_true rfl⟩) (kSt hE hW _) rfl rfl hl.1 rfl (lv_room (Nat.le_of_ble_eq_true rfl)) dL_dirty_29 ⟨show 0 + 8 + 0 ≤ 32 by omega, show 0 + 60 + 0 ≤ 240 by omega⟩) hW (fun r40 ad37 w38 H41 locs hp39 hW => ?_)
      obtain ⟨e42, e43, e44⟩ := hp39
      rw [e43, e44] at hW
      subst e42
      rw [isA_t (show t < 60 by omega)]
      refine lv_if_ne (tgt := 49) hx hb dL_dirty_32 (by decide) (fun c45 => ?_) (fun c45 => ?_)
      · refine lv_iconst (v := 0) hx hb dL_dirty_49 (by decide) ?_
        exact J50 _ _ _ _ _ (by omega) (by omega) ((bI_0 (fun q => q.2.1 (by rw [h8, actP_t (by omega)]; exact bI_t c45))).symm) hW
      · refine lv_aload_n hx hb dL_dirty_35 rfl (lv_at hl 3 rfl) ?_
        refine lv_iload_n hx hb dL_dirty_36 rfl (lv_at hl 5 rfl) ?_
        refine lv_iload hx hb dL_dirty_37 (lv_at hl 1 rfl) ?_
        refine kx_i (vx_runV (As := [.int (nI b), .int 0]) (rest := [.int 0]) ⟨hx, hb, hml, hown, hts⟩ (k_X5_isMarked l hnt D A ad w S nT nC nD nM nZ hC hN (nI b) 0) (cwV 2 hts gL_dirty_X5_isMarked rfl rfl rfl (by decide +kernel) ⟨Nat.le_of_ble_eq_true rfl, Nat.le_of_ble_eq_true rfl⟩) (kV hE hW hC.u rfl _) rfl rfl hl.1 rfl (lv_room (Nat.le_of_ble_eq_true rfl)) dL_dirty_39 ⟨show 0 + 8 + 0 + 8 ≤ 32 by omega, show 0 + 60 + 0 + 60 ≤ 240 by omega⟩) hW (fun E ce q9 H locs hpx _ _ _ _ => (nf_so hb3 (k := 0) (by decide) hpx).elim) (fun r49 ad46 w47 H50 locs hp48 hW => ?_)
        obtain ⟨e51, -, e52, e53⟩ := hp48
        rw [e52, e53] at hW
        subst e51
        rw [show S 9 (nv (2 * nI b + 0)) = S 9 (2 * b) from by rw [show nv (2 * nI b + 0) = 2 * b from nv_so hb3 (k := 0) (by decide)]]
        refine lv_if_ne (tgt := 49) hx hb dL_dirty_42 (by decide) (fun c54 => ?_) (fun c54 => ?_)
        · refine lv_iconst (v := 0) hx hb dL_dirty_49 (by decide) ?_
          exact J50 _ _ _ _ _ (by omega) (by omega) ((bI_0 (fun q => c54 q.2.2)).symm) hW
        · refine lv_iconst (v := 1) hx hb dL_dirty_45 (by decide) ?_
          refine lv_goto (tgt := 50) hx hb dL_dirty_46 (by decide) ?_
          exact J50 _ _ _ _ _ (by omega) (by omega) ((bI_1 ⟨by rw [h8]; exact nI_nm1 (by omega), by rw [h8, actP_t (by omega)]; exact bI_f c45, c54⟩).symm) hW

set_option maxHeartbeats 4000000 in
set_option maxRecDepth 100000 in
/-- k_L_isClean -/
theorem k_L_isClean (l : Launch) (hnt : l.stackTraces = false) (D : va_G) (A : Nat → Prop) (ad : Nat → Nat) (w : kWd) (S : St) (nT nC nD nM nZ : Nat) (hC : CW D S ad w nT nC) (hN : SN S nT nC nD nM nZ) (aF : Nat → Int32) (hA1 : w 2101 = some (.inl (D.1 100, 60, .inl aF))) (hAF : AF S nT aF) (b : Nat) (hb3 : b < 3) (h0 : ¬ endP S (2 * b)) (h1 : ¬ endP S (2 * b + 1)) : Met l yL_isClean wsL_isClean ({ frames := 9, cells := 32, slots := 240, locals := 171 }) (kPc D A [.ref (ad 0), .ref (ad 2101), .int (nI b)] ad w) (kQi D A (fun v ad' w' => v = 1 ∧ ad' = ad ∧ w' = w)) 32 240 A := by
  refine Met.ofW (cc := cL_isClean) (maxL := 3) (ret := (some (.boolean))) (by decide) rfl ?_
  intro p e s m args below meth c s₁ B hml hv
  obtain ⟨rfl, hE, hW0, hI0, hA⟩ := hv
  have hx := B.exec
  have hb := B.bytes
  have hr := B.returns
  have hts := atoms_spec (ws := wsL_isClean) B.pre
  have hown : s.vm.findClass RL = some m.cls := findClass_of_methodNamed B.named
  have hlocks := B.notSynchronized
  have hW : kS D A s.heap ad w s.heap [] := ⟨hW0, hI0, va_S.rf, hA⟩
  have hl := lv_entry ([.ref (ad 0), .ref (ad 2101), .int (nI b)]) (n := 3) (Nat.le_of_ble_eq_true rfl)
  rw [lg_entry_eq]
  generalize (lg_sl ([.ref (ad 0), .ref (ad 2101), .int (nI b)]) ++ List.replicate (3 - (lg_sl ([.ref (ad 0), .ref (ad 2101), .int (nI b)])).length) Slot.unset).toArray = ls at hl ⊢
  have hl : lv_has ls 3 [(0, .ref (ad 0)), (1, .ref (ad 2101)), (2, .int (nI b))] := hl
  refine lv_aload_n hx hb dL_isClean_0 rfl (lv_at hl 0 rfl) ?_
  refine lv_aload_n hx hb dL_isClean_1 rfl (lv_at hl 1 rfl) ?_
  refine lv_iload_n hx hb dL_isClean_2 rfl (lv_at hl 2 rfl) ?_
  refine kk_i (va_runS (As := [.ref (ad 0), .ref (ad 2101), .int (nI b)]) (rest := []) ⟨hx, hb, hml, hown, hts⟩ (k_L_dirty l hnt D A ad w S nT nC nD nM nZ hC hN aF hA1 hAF b hb3) (va_cwS 3 hts gL_isClean_L_dirty rfl rfl rfl (by decide +kernel) ⟨Nat.le_of_ble_eq_true rfl, Nat.le_of_ble_eq_true rfl⟩) (kSt hE hW _) rfl rfl hl.1 rfl (lv_room (Nat.le_of_ble_eq_true rfl)) dL_isClean_3 ⟨show 0 + 32 ≤ 32 by omega, show 0 + 240 ≤ 240 by omega⟩) hW (fun r4 ad1 w2 H5 locs hp3 hW => ?_)
  obtain ⟨e6, e7, e8⟩ := hp3
  rw [e7, e8] at hW
  subst e6
  rw [show dyN S b = 0 from dyN_0 h0 h1]
  refine lv_if_ne (tgt := 13) hx hb dL_isClean_6 (by decide) (fun c9 => absurd (rfl) c9) (fun _ => ?_)
  refine lv_iconst (v := 1) hx hb dL_isClean_9 (by decide) ?_
  refine lv_goto (tgt := 14) hx hb dL_isClean_10 (by decide) ?_
  exact ke_z hx hb hr hlocks (show 0 + 32 ≤ 32 by omega) (show 0 + 240 ≤ 240 by omega) dL_isClean_14 (by first | exact Or.inl rfl | exact Or.inr rfl | assumption) hW (⟨rfl, rfl, rfl⟩)

