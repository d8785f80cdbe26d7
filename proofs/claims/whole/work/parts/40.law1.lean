/-! the law's own methods -/
set_option maxHeartbeats 4000000 in
set_option maxRecDepth 100000 in
/-- k_L_setSpace -/
theorem k_L_setSpace (l : Launch) (hnt : l.stackTraces = false) (D : va_G) (A : Nat → Prop) (ad : Nat → Nat) (w : kWd) (S : St) (nT nC nD nM nZ : Nat) (hC : CW D S ad w nT nC) (hN : SN S nT nC nD nM nZ) (fo : Nat → Int64) (ho : w 2100 = some (.inl (D.1 102, 1, .inr (.inl fo)))) (z : Int32) : Met l yL_setSpace wsL_setSpace ({ frames := 7, cells := 8, slots := 60, locals := 122 }) (kPc D A [.ref (ad 0), .int z, .ref (ad 2100)] ad w) (kQi D A (OpP D ad w (ssK S z) (ssR S z) (ssN S z) nC nM)) 8 60 A := by
  refine va_MetW (hh := [(0, 9, 12, 13), (0, 9, 15, 15)]) (cc := cL_setSpace) (maxL := 4) (ret := (some (.int))) (by decide) rfl ?_
  intro p e s m args below meth c s₁ B hml hv
  obtain ⟨rfl, hE, hW0, hI0, hA⟩ := hv
  have hx := B.exec
  have hb := B.bytes
  have hr := B.returns
  have hts := atoms_spec (ws := wsL_setSpace) B.pre
  have hown : s.vm.findClass RL = some m.cls := findClass_of_methodNamed B.named
  have hlocks := B.notSynchronized
  have hW : kS D A s.heap ad w s.heap [] := ⟨hW0, hI0, va_S.rf, hA⟩
  have hl := lv_entry ([.ref (ad 0), .int z, .ref (ad 2100)]) (n := 4) (Nat.le_of_ble_eq_true rfl)
  rw [lg_entry_eq]
  generalize (lg_sl ([.ref (ad 0), .int z, .ref (ad 2100)]) ++ List.replicate (4 - (lg_sl ([.ref (ad 0), .int z, .ref (ad 2100)])).length) Slot.unset).toArray = ls at hl ⊢
  have hl : lv_has ls 4 [(0, .ref (ad 0)), (1, .int z), (2, .ref (ad 2100))] := hl
  have htab : c.exceptionTable.toList = tableOf [(0, 9, 12, 13), (0, 9, 15, 15)] := vx_table (x := yL_setSpace) B (hts (.codeWith yL_setSpace cL_setSpace 4 (some .int) [(0, 9, 12, 13), (0, 9, 15, 15)]) (by decide +kernel))
  have hC0 : CW D (sS S 17 0) ad w nT nC := hC.s17
  have hN0 : SN (sS S 17 0) nT nC nD nM nZ := hN.s17
  refine lv_aload_n hx hb dL_setSpace_0 rfl (lv_at hl 2 rfl) ?_
  refine lv_iconst (v := 0) hx hb dL_setSpace_1 (by decide) ?_
  refine lv_aload_n hx hb dL_setSpace_2 rfl (lv_at hl 0 rfl) ?_
  refine lv_iload_n hx hb dL_setSpace_3 rfl (lv_at hl 1 rfl) ?_
  refine kx_i (vx_runV (As := [.int z]) (rest := [.int 0, .ref (ad 2100)]) ⟨hx, hb, hml, hown, hts⟩ (k_X5_setSpace l hnt D A ad w (sS S 17 0) nT nC nD nM nZ hC0 hN0 z) (cwV 1 hts gL_setSpace_X5_setSpace rfl rfl rfl (by decide +kernel) ⟨Nat.le_of_ble_eq_true rfl, Nat.le_of_ble_eq_true rfl⟩) (kV hE hW hC.u rfl _) rfl rfl hl.1 rfl (lv_room (Nat.le_of_ble_eq_true rfl)) dL_setSpace_4 ⟨Nat.le_of_ble_eq_true rfl, Nat.le_of_ble_eq_true rfl⟩) hW (fun E ce q9 H locs hpx hW h1 h2 h3 => ?_) (fun r4 ad1 w2 H5 locs hp3 hW => ?_)
  · rcases hpx with ⟨rfl, hk⟩ | ⟨rfl, hk⟩
    · refine vx_catch hown [] ⟨0, 9, 12, 13⟩ [⟨0, 9, 15, 15⟩] (by rw [htab]; rfl) (fun z hz => absurd hz List.not_mem_nil) rfl (by decide) (hts (.classLink RL 13 "java/lang/IllegalArgumentException") (by decide +kernel)) (va_Nw.use rfl (hE.N 32 rfl)) h1 h2 h3 ?_
      refine W.eq (g2 := F0 m 12 ls [.ref q9]) rfl ?_
      refine lv_astore_n (lv' := [(3, .ref q9), (0, .ref (ad 0)), (1, .int z), (2, .ref (ad 2100))]) hx hb dL_setSpace_12 rfl hl (by decide) rfl (fun ls hl => ?_)
      refine lv_iconst (v := 1) hx hb dL_setSpace_13 (by decide) ?_
      have hk9 : ssK S z = 1 := hk
      exact ke_i hx hb hr hlocks (Nat.le_of_ble_eq_true rfl) (Nat.le_of_ble_eq_true rfl) dL_setSpace_14 hW (OpP.thrown (by rw [ssN_n (by rw [hk9]; decide)]; exact hC.s17) (by rw [ssN_n (by rw [hk9]; decide)]; exact hN.s17) ho hk9 (by rw [hk9]; decide))
    · refine vx_catch hown [⟨0, 9, 12, 13⟩] ⟨0, 9, 15, 15⟩ [] (by rw [htab]; rfl) (fun z hz => by obtain rfl := List.mem_singleton.mp hz; exact Or.inr ⟨by decide, "java/lang/IllegalArgumentException", hts (.classLink RL 13 "java/lang/IllegalArgumentException") (by decide +kernel), hE.C 3 rfl⟩) rfl (by decide) (hts (.classLink RL 15 "java/lang/IllegalStateException") (by decide +kernel)) (va_Nw.use rfl (hE.N 33 rfl)) h1 h2 h3 ?_
      refine W.eq (g2 := F0 m 15 ls [.ref q9]) rfl ?_
      refine lv_astore_n (lv' := [(3, .ref q9), (0, .ref (ad 0)), (1, .int z), (2, .ref (ad 2100))]) hx hb dL_setSpace_15 rfl hl (by decide) rfl (fun ls hl => ?_)
      refine lv_iconst (v := 2) hx hb dL_setSpace_16 (by decide) ?_
      have hk9 : ssK S z = 2 := hk
      exact ke_i hx hb hr hlocks (Nat.le_of_ble_eq_true rfl) (Nat.le_of_ble_eq_true rfl) dL_setSpace_17 hW (OpP.thrown (by rw [ssN_n (by rw [hk9]; decide)]; exact hC.s17) (by rw [ssN_n (by rw [hk9]; decide)]; exact hN.s17) ho hk9 (by rw [hk9]; decide))
  · obtain ⟨e1, hk, e3, hC2, hF⟩ := hp3
    rw [e3] at hW
    subst e1
    obtain ⟨j, hz1, hz2, hz3, rfl⟩ := ss_z hN hk
    have hk9 : ssK S (nI j) = 0 := hk
    refine lv_i2l hx hb dL_setSpace_7 rfl ?_
    refine kk_last hx hb hE hW ((hF 2100 (by decide)).1.trans ho) (by unfold vp_in; decide) dL_setSpace_8 (fun H8 locs w6 e7 hW => ?_)
    refine lv_goto (tgt := 18) hx hb dL_setSpace_9 (by decide) ?_
    refine lv_iconst (v := 0) hx hb dL_setSpace_18 (by decide) ?_
    exact ke_i hx hb hr hlocks (Nat.le_of_ble_eq_true rfl) (Nat.le_of_ble_eq_true rfl) dL_setSpace_19 hW (OpP.ok (by rw [ssN_0 hk9]; exact hC2) (by rw [ssN_0 hk9]; exact hN0.ss hz1 hz2 hz3) (by omega) (by omega) hF rfl e7 hk9 (by rw [show ssR S (nI j) = S 10 0 from if_pos hk9]; rfl))

set_option maxHeartbeats 4000000 in
set_option maxRecDepth 100000 in
/-- k_L_begin -/
theorem k_L_begin (l : Launch) (hnt : l.stackTraces = false) (D : va_G) (A : Nat → Prop) (ad : Nat → Nat) (w : kWd) (S : St) (nT nC nD nM nZ : Nat) (hC : CW D S ad w nT nC) (hN : SN S nT nC nD nM nZ) (fo : Nat → Int64) (ho : w 2100 = some (.inl (D.1 102, 1, .inr (.inl fo))))  : Met l yL_begin wsL_begin ({ frames := 8, cells := 8, slots := 2060, locals := 252 }) (kPc D A [.ref (ad 0), .ref (ad 2100)] ad w) (kQi D A (OpP D ad w (bgK S) (bgR S) (bgN S) nC nM)) 8 2060 A := by
  refine va_MetW (hh := [(0, 8, 11, 15)]) (cc := cL_begin) (maxL := 3) (ret := (some (.int))) (by decide) rfl ?_
  intro p e s m args below meth c s₁ B hml hv
  obtain ⟨rfl, hE, hW0, hI0, hA⟩ := hv
  have hx := B.exec
  have hb := B.bytes
  have hr := B.returns
  have hts := atoms_spec (ws := wsL_begin) B.pre
  have hown : s.vm.findClass RL = some m.cls := findClass_of_methodNamed B.named
  have hlocks := B.notSynchronized
  have hW : kS D A s.heap ad w s.heap [] := ⟨hW0, hI0, va_S.rf, hA⟩
  have hl := lv_entry ([.ref (ad 0), .ref (ad 2100)]) (n := 3) (Nat.le_of_ble_eq_true rfl)
  rw [lg_entry_eq]
  generalize (lg_sl ([.ref (ad 0), .ref (ad 2100)]) ++ List.replicate (3 - (lg_sl ([.ref (ad 0), .ref (ad 2100)])).length) Slot.unset).toArray = ls at hl ⊢
  have hl : lv_has ls 3 [(0, .ref (ad 0)), (1, .ref (ad 2100))] := hl
  have htab : c.exceptionTable.toList = tableOf [(0, 8, 11, 15)] := vx_table (x := yL_begin) B (hts (.codeWith yL_begin cL_begin 3 (some .int) [(0, 8, 11, 15)]) (by decide +kernel))
  have hC0 : CW D (sS S 17 0) ad w nT nC := hC.s17
  have hN0 : SN (sS S 17 0) nT nC nD nM nZ := hN.s17
  refine lv_aload_n hx hb dL_begin_0 rfl (lv_at hl 1 rfl) ?_
  refine lv_iconst (v := 0) hx hb dL_begin_1 (by decide) ?_
  refine lv_aload_n hx hb dL_begin_2 rfl (lv_at hl 0 rfl) ?_
  refine kx_i (vx_runV (As := []) (rest := [.int 0, .ref (ad 2100)]) ⟨hx, hb, hml, hown, hts⟩ (k_X5_begin l hnt D A ad w (sS S 17 0) nT nC nD nM nZ hC0 hN0 ) (cwV 0 hts gL_begin_X5_begin rfl rfl rfl (by decide +kernel) ⟨Nat.le_of_ble_eq_true rfl, Nat.le_of_ble_eq_true rfl⟩) (kV hE hW hC.u rfl _) rfl rfl hl.1 rfl (lv_room (Nat.le_of_ble_eq_true rfl)) dL_begin_3 ⟨Nat.le_of_ble_eq_true rfl, Nat.le_of_ble_eq_true rfl⟩) hW (fun E ce q9 H locs hpx hW h1 h2 h3 => ?_) (fun r4 ad1 w2 H5 locs hp3 hW => ?_)
  · obtain ⟨rfl, hk⟩ := hpx
    refine vx_catch hown [] ⟨0, 8, 11, 15⟩ [] (by rw [htab]; rfl) (fun z hz => absurd hz List.not_mem_nil) rfl (by decide) (hts (.classLink RL 15 "java/lang/IllegalStateException") (by decide +kernel)) (va_Nw.use rfl (hE.N 33 rfl)) h1 h2 h3 ?_
    refine W.eq (g2 := F0 m 11 ls [.ref q9]) rfl ?_
    refine lv_astore_n (lv' := [(2, .ref q9), (0, .ref (ad 0)), (1, .ref (ad 2100))]) hx hb dL_begin_11 rfl hl (by decide) rfl (fun ls hl => ?_)
    refine lv_iconst (v := 1) hx hb dL_begin_12 (by decide) ?_
    have hk9 : bgK S = 1 := hk
    exact ke_i hx hb hr hlocks (Nat.le_of_ble_eq_true rfl) (Nat.le_of_ble_eq_true rfl) dL_begin_13 hW (OpP.thrown (by rw [bgN_n (by rw [hk9]; decide)]; exact hC.s17) (by rw [bgN_n (by rw [hk9]; decide)]; exact hN.s17) ho hk9 (by rw [hk9]; decide))
  · obtain ⟨e1, hk, hC2, h0, hF⟩ := hp3
    subst e1
    have hk9 : bgK S = 0 := hk
    have h59 : nT < 60 := by
      rcases Nat.lt_or_ge nT 60 with h | h
      · exact h
      · have h60 := hN.2.2.2.2.2.1
        have : bgK S = 1 := if_pos (by rw [hN.1, show nT = 60 by omega]; rfl)
        rw [this] at hk9
        exact absurd hk9 (by decide)
    have a6 : ad1 0 = ad 0 := h0
    have a7 : ad1 2100 = ad 2100 := (hF 2100 (by decide)).2
    rw [← a6, ← a7] at hl
    refine W.eq (g2 := F0 m 6 ls [.int ((sS S 17 0) 12 0), .int 0, .ref (ad1 2100)]) (by rw [a7]) ?_
    refine lv_i2l hx hb dL_begin_6 rfl ?_
    refine kk_last hx hb hE hW ((hF 2100 (by decide)).1.trans ho) (by unfold vp_in; decide) dL_begin_7 (fun H10 locs w8 e9 hW => ?_)
    refine lv_goto (tgt := 14) hx hb dL_begin_8 (by decide) ?_
    refine lv_iconst (v := 0) hx hb dL_begin_14 (by decide) ?_
    exact ke_i hx hb hr hlocks (Nat.le_of_ble_eq_true rfl) (Nat.le_of_ble_eq_true rfl) dL_begin_15 hW (OpP.ok (by rw [bgN_0 hk9]; exact hC2) (by rw [bgN_0 hk9]; exact hN0.bg h59) (by omega) (by omega) hF h0 e9 hk9 (by rw [show bgR S = S 12 0 + 1 - 1 from if_pos hk9, Int32.add_sub_cancel]; rfl))

set_option maxHeartbeats 4000000 in
set_option maxRecDepth 100000 in
/-- k_L_write -/
theorem k_L_write (l : Launch) (hnt : l.stackTraces = false) (D : va_G) (A : Nat → Prop) (ad : Nat → Nat) (w : kWd) (S : St) (nT nC nD nM nZ : Nat) (hC : CW D S ad w nT nC) (hN : SN S nT nC nD nM nZ) (fo : Nat → Int64) (ho : w 2100 = some (.inl (D.1 102, 1, .inr (.inl fo)))) (hlt : nC < 512) (i r x : Int32) : Met l yL_write wsL_write ({ frames := 8, cells := 10, slots := 2100, locals := 258 }) (kPc D A [.ref (ad 0), .int i, .int r, .int x, .ref (ad 2100)] ad w) (kQi D A (OpP D ad w (wrK S i r x) (wrR S i r x) (wrN S i r x) nC nM)) 10 2100 A := by
  refine va_MetW (hh := [(0, 12, 15, 25), (0, 12, 19, 13), (0, 12, 23, 15)]) (cc := cL_write) (maxL := 6) (ret := (some (.int))) (by decide) rfl ?_
  intro p e s m args below meth c s₁ B hml hv
  obtain ⟨rfl, hE, hW0, hI0, hA⟩ := hv
  have hx := B.exec
  have hb := B.bytes
  have hr := B.returns
  have hts := atoms_spec (ws := wsL_write) B.pre
  have hown : s.vm.findClass RL = some m.cls := findClass_of_methodNamed B.named
  have hlocks := B.notSynchronized
  have hW : kS D A s.heap ad w s.heap [] := ⟨hW0, hI0, va_S.rf, hA⟩
  have hl := lv_entry ([.ref (ad 0), .int i, .int r, .int x, .ref (ad 2100)]) (n := 6) (Nat.le_of_ble_eq_true rfl)
  rw [lg_entry_eq]
  generalize (lg_sl ([.ref (ad 0), .int i, .int r, .int x, .ref (ad 2100)]) ++ List.replicate (6 - (lg_sl ([.ref (ad 0), .int i, .int r, .int x, .ref (ad 2100)])).length) Slot.unset).toArray = ls at hl ⊢
  have hl : lv_has ls 6 [(0, .ref (ad 0)), (1, .int i), (2, .int r), (3, .int x), (4, .ref (ad 2100))] := hl
  have htab : c.exceptionTable.toList = tableOf [(0, 12, 15, 25), (0, 12, 19, 13), (0, 12, 23, 15)] := vx_table (x := yL_write) B (hts (.codeWith yL_write cL_write 6 (some .int) [(0, 12, 15, 25), (0, 12, 19, 13), (0, 12, 23, 15)]) (by decide +kernel))
  have hC0 : CW D (sS S 17 0) ad w nT nC := hC.s17
  have hN0 : SN (sS S 17 0) nT nC nD nM nZ := hN.s17
  refine lv_aload hx hb dL_write_0 (lv_at hl 4 rfl) ?_
  refine lv_iconst (v := 0) hx hb dL_write_2 (by decide) ?_
  refine lv_aload_n hx hb dL_write_3 rfl (lv_at hl 0 rfl) ?_
  refine lv_iload_n hx hb dL_write_4 rfl (lv_at hl 1 rfl) ?_
  refine lv_iload_n hx hb dL_write_5 rfl (lv_at hl 2 rfl) ?_
  refine lv_iload_n hx hb dL_write_6 rfl (lv_at hl 3 rfl) ?_
  refine kx_i (vx_runV (As := [.int i, .int r, .int x]) (rest := [.int 0, .ref (ad 2100)]) ⟨hx, hb, hml, hown, hts⟩ (k_X5_write l hnt D A ad w (sS S 17 0) nT nC nD nM nZ hC0 hN0 hlt i r x) (cwV 3 hts gL_write_X5_write rfl rfl rfl (by decide +kernel) ⟨Nat.le_of_ble_eq_true rfl, Nat.le_of_ble_eq_true rfl⟩) (kV hE hW hC.u rfl _) rfl rfl hl.1 rfl (lv_room (Nat.le_of_ble_eq_true rfl)) dL_write_7 ⟨Nat.le_of_ble_eq_true rfl, Nat.le_of_ble_eq_true rfl⟩) hW (fun E ce q9 H locs hpx hW h1 h2 h3 => ?_) (fun r4 ad1 w2 H5 locs hp3 hW => ?_)
  · rcases hpx with ⟨rfl, hk⟩ | ⟨rfl, hk⟩ | ⟨rfl, hk⟩
    · refine vx_catch hown [] ⟨0, 12, 15, 25⟩ [⟨0, 12, 19, 13⟩, ⟨0, 12, 23, 15⟩] (by rw [htab]; rfl) (fun z hz => absurd hz List.not_mem_nil) rfl (by decide) (hts (.classLink RL 25 "java/lang/IndexOutOfBoundsException") (by decide +kernel)) (va_Nw.use rfl (hE.N 34 rfl)) h1 h2 h3 ?_
      refine W.eq (g2 := F0 m 15 ls [.ref q9]) rfl ?_
      refine lv_astore (lv' := [(5, .ref q9), (0, .ref (ad 0)), (1, .int i), (2, .int r), (3, .int x), (4, .ref (ad 2100))]) hx hb dL_write_15 hl (by decide) rfl (fun ls hl => ?_)
      refine lv_iconst (v := 1) hx hb dL_write_17 (by decide) ?_
      have hk9 : wrK S i r x = 1 := by rw [← wrK_17 (z := 0)]; exact hk
      exact ke_i hx hb hr hlocks (Nat.le_of_ble_eq_true rfl) (Nat.le_of_ble_eq_true rfl) dL_write_18 hW (OpP.thrown (by rw [wrN_n (by rw [hk9]; decide)]; exact hC.s17) (by rw [wrN_n (by rw [hk9]; decide)]; exact hN.s17) ho hk9 (by rw [hk9]; decide))
    · refine vx_catch hown [⟨0, 12, 15, 25⟩] ⟨0, 12, 19, 13⟩ [⟨0, 12, 23, 15⟩] (by rw [htab]; rfl) (fun z hz => by obtain rfl := List.mem_singleton.mp hz; exact Or.inr ⟨by decide, "java/lang/IndexOutOfBoundsException", hts (.classLink RL 25 "java/lang/IndexOutOfBoundsException") (by decide +kernel), hE.C 1 rfl⟩) rfl (by decide) (hts (.classLink RL 13 "java/lang/IllegalArgumentException") (by decide +kernel)) (va_Nw.use rfl (hE.N 32 rfl)) h1 h2 h3 ?_
      refine W.eq (g2 := F0 m 19 ls [.ref q9]) rfl ?_
      refine lv_astore (lv' := [(5, .ref q9), (0, .ref (ad 0)), (1, .int i), (2, .int r), (3, .int x), (4, .ref (ad 2100))]) hx hb dL_write_19 hl (by decide) rfl (fun ls hl => ?_)
      refine lv_iconst (v := 2) hx hb dL_write_21 (by decide) ?_
      have hk9 : wrK S i r x = 2 := by rw [← wrK_17 (z := 0)]; exact hk
      exact ke_i hx hb hr hlocks (Nat.le_of_ble_eq_true rfl) (Nat.le_of_ble_eq_true rfl) dL_write_22 hW (OpP.thrown (by rw [wrN_n (by rw [hk9]; decide)]; exact hC.s17) (by rw [wrN_n (by rw [hk9]; decide)]; exact hN.s17) ho hk9 (by rw [hk9]; decide))
    · refine vx_catch hown [⟨0, 12, 15, 25⟩, ⟨0, 12, 19, 13⟩] ⟨0, 12, 23, 15⟩ [] (by rw [htab]; rfl) (fun z hz => (List.mem_cons.mp hz).elim (fun e9 => by subst e9; exact Or.inr ⟨by decide, "java/lang/IndexOutOfBoundsException", hts (.classLink RL 25 "java/lang/IndexOutOfBoundsException") (by decide +kernel), hE.C 4 rfl⟩) (fun hz => by obtain rfl := List.mem_singleton.mp hz; exact Or.inr ⟨by decide, "java/lang/IllegalArgumentException", hts (.classLink RL 13 "java/lang/IllegalArgumentException") (by decide +kernel), hE.C 3 rfl⟩)) rfl (by decide) (hts (.classLink RL 15 "java/lang/IllegalStateException") (by decide +kernel)) (va_Nw.use rfl (hE.N 33 rfl)) h1 h2 h3 ?_
      refine W.eq (g2 := F0 m 23 ls [.ref q9]) rfl ?_
      refine lv_astore (lv' := [(5, .ref q9), (0, .ref (ad 0)), (1, .int i), (2, .int r), (3, .int x), (4, .ref (ad 2100))]) hx hb dL_write_23 hl (by decide) rfl (fun ls hl => ?_)
      refine lv_iconst (v := 3) hx hb dL_write_25 (by decide) ?_
      have hk9 : wrK S i r x = 3 := by rw [← wrK_17 (z := 0)]; exact hk
      exact ke_i hx hb hr hlocks (Nat.le_of_ble_eq_true rfl) (Nat.le_of_ble_eq_true rfl) dL_write_26 hW (OpP.thrown (by rw [wrN_n (by rw [hk9]; decide)]; exact hC.s17) (by rw [wrN_n (by rw [hk9]; decide)]; exact hN.s17) ho hk9 (by rw [hk9]; decide))
  · obtain ⟨e1, hk, hC2, h0, hF⟩ := hp3
    subst e1
    have hk9 : wrK S i r x = 0 := by rw [← wrK_17 (z := 0)]; exact hk
    obtain ⟨nD9, hN9⟩ := hN0.wrM hlt hk
    have a6 : ad1 0 = ad 0 := h0
    have a7 : ad1 2100 = ad 2100 := (hF 2100 (by decide)).2
    rw [← a6, ← a7] at hl
    refine W.eq (g2 := F0 m 10 ls [.int ((sS S 17 0) 0 (nv r)), .int 0, .ref (ad1 2100)]) (by rw [a7]) ?_
    refine lv_i2l hx hb dL_write_10 rfl ?_
    refine kk_last hx hb hE hW ((hF 2100 (by decide)).1.trans ho) (by unfold vp_in; decide) dL_write_11 (fun H10 locs w8 e9 hW => ?_)
    refine lv_goto (tgt := 27) hx hb dL_write_12 (by decide) ?_
    refine lv_iconst (v := 0) hx hb dL_write_27 (by decide) ?_
    exact ke_i hx hb hr hlocks (Nat.le_of_ble_eq_true rfl) (Nat.le_of_ble_eq_true rfl) dL_write_28 hW (OpP.ok (by rw [wrN_0 hk9]; exact hC2) (by rw [wrN_0 hk9]; exact hN9) (by omega) (by omega) hF h0 e9 hk9 (by rw [show wrR S i r x = S 0 (nv r) from if_pos hk9]; rfl))

set_option maxHeartbeats 4000000 in
set_option maxRecDepth 100000 in
/-- k_L_read -/
theorem k_L_read (l : Launch) (hnt : l.stackTraces = false) (D : va_G) (A : Nat → Prop) (ad : Nat → Nat) (w : kWd) (S : St) (nT nC nD nM nZ : Nat) (hC : CW D S ad w nT nC) (hN : SN S nT nC nD nM nZ) (fo : Nat → Int64) (ho : w 2100 = some (.inl (D.1 102, 1, .inr (.inl fo)))) (i r : Int32) : Met l yL_read wsL_read ({ frames := 8, cells := 8, slots := 60, locals := 148 }) (kPc D A [.ref (ad 0), .int i, .int r, .ref (ad 2100)] ad w) (kQi D A (OpP D ad w (rdK S (S 2 (nv i)) r i (r1K S i r)) (rdR S (S 2 (nv i)) r i (r1K S i r)) (rdN S (S 2 (nv i)) r i (r1K S i r)) nC nM)) 8 60 A := by
  refine va_MetW (hh := [(0, 10, 13, 25), (0, 10, 17, 15), (0, 10, 21, 31)]) (cc := cL_read) (maxL := 5) (ret := (some (.int))) (by decide) rfl ?_
  intro p e s m args below meth c s₁ B hml hv
  obtain ⟨rfl, hE, hW0, hI0, hA⟩ := hv
  have hx := B.exec
  have hb := B.bytes
  have hr := B.returns
  have hts := atoms_spec (ws := wsL_read) B.pre
  have hown : s.vm.findClass RL = some m.cls := findClass_of_methodNamed B.named
  have hlocks := B.notSynchronized
  have hW : kS D A s.heap ad w s.heap [] := ⟨hW0, hI0, va_S.rf, hA⟩
  have hl := lv_entry ([.ref (ad 0), .int i, .int r, .ref (ad 2100)]) (n := 5) (Nat.le_of_ble_eq_true rfl)
  rw [lg_entry_eq]
  generalize (lg_sl ([.ref (ad 0), .int i, .int r, .ref (ad 2100)]) ++ List.replicate (5 - (lg_sl ([.ref (ad 0), .int i, .int r, .ref (ad 2100)])).length) Slot.unset).toArray = ls at hl ⊢
  have hl : lv_has ls 5 [(0, .ref (ad 0)), (1, .int i), (2, .int r), (3, .ref (ad 2100))] := hl
  have htab : c.exceptionTable.toList = tableOf [(0, 10, 13, 25), (0, 10, 17, 15), (0, 10, 21, 31)] := vx_table (x := yL_read) B (hts (.codeWith yL_read cL_read 5 (some .int) [(0, 10, 13, 25), (0, 10, 17, 15), (0, 10, 21, 31)]) (by decide +kernel))
  have hC0 : CW D (sS S 17 0) ad w nT nC := hC.s17
  have hN0 : SN (sS S 17 0) nT nC nD nM nZ := hN.s17
  refine lv_aload_n hx hb dL_read_0 rfl (lv_at hl 3 rfl) ?_
  refine lv_iconst (v := 0) hx hb dL_read_1 (by decide) ?_
  refine lv_aload_n hx hb dL_read_2 rfl (lv_at hl 0 rfl) ?_
  refine lv_iload_n hx hb dL_read_3 rfl (lv_at hl 1 rfl) ?_
  refine lv_iload_n hx hb dL_read_4 rfl (lv_at hl 2 rfl) ?_
  refine kx_i (vx_runV (As := [.int i, .int r]) (rest := [.int 0, .ref (ad 2100)]) ⟨hx, hb, hml, hown, hts⟩ (k_X5_read l hnt D A ad w (sS S 17 0) nT nC nD nM nZ hC0 hN0 i r) (cwV 2 hts gL_read_X5_read rfl rfl rfl (by decide +kernel) ⟨Nat.le_of_ble_eq_true rfl, Nat.le_of_ble_eq_true rfl⟩) (kV hE hW hC.u rfl _) rfl rfl hl.1 rfl (lv_room (Nat.le_of_ble_eq_true rfl)) dL_read_5 ⟨Nat.le_of_ble_eq_true rfl, Nat.le_of_ble_eq_true rfl⟩) hW (fun E ce q9 H locs hpx hW h1 h2 h3 => ?_) (fun r4 ad1 w2 H5 locs hp3 hW => ?_)
  · rcases hpx with ⟨rfl, hk⟩ | ⟨rfl, hk⟩ | ⟨rfl, hk, hk2⟩
    · refine vx_catch hown [] ⟨0, 10, 13, 25⟩ [⟨0, 10, 17, 15⟩, ⟨0, 10, 21, 31⟩] (by rw [htab]; rfl) (fun z hz => absurd hz List.not_mem_nil) rfl (by decide) (hts (.classLink RL 25 "java/lang/IndexOutOfBoundsException") (by decide +kernel)) (va_Nw.use rfl (hE.N 34 rfl)) h1 h2 h3 ?_
      refine W.eq (g2 := F0 m 13 ls [.ref q9]) rfl ?_
      refine lv_astore (lv' := [(4, .ref q9), (0, .ref (ad 0)), (1, .int i), (2, .int r), (3, .ref (ad 2100))]) hx hb dL_read_13 hl (by decide) rfl (fun ls hl => ?_)
      refine lv_iconst (v := 1) hx hb dL_read_15 (by decide) ?_
      have hk0 : r1K S i r = 1 := hk
      have hne : ¬ r1K S i r = 0 := by rw [hk0]; decide
      have hk9 : rdK S (S 2 (nv i)) r i (r1K S i r) = 1 := (rdK_n hne).trans hk0
      exact ke_i hx hb hr hlocks (Nat.le_of_ble_eq_true rfl) (Nat.le_of_ble_eq_true rfl) dL_read_16 hW (OpP.thrown (by rw [rdN_n hne]; exact hC.s17) (by rw [rdN_n hne]; exact hN.s17) ho hk9 (by rw [hk9]; decide))
    · refine vx_catch hown [⟨0, 10, 13, 25⟩] ⟨0, 10, 17, 15⟩ [⟨0, 10, 21, 31⟩] (by rw [htab]; rfl) (fun z hz => by obtain rfl := List.mem_singleton.mp hz; exact Or.inr ⟨by decide, "java/lang/IndexOutOfBoundsException", hts (.classLink RL 25 "java/lang/IndexOutOfBoundsException") (by decide +kernel), hE.C 4 rfl⟩) rfl (by decide) (hts (.classLink RL 15 "java/lang/IllegalStateException") (by decide +kernel)) (va_Nw.use rfl (hE.N 33 rfl)) h1 h2 h3 ?_
      refine W.eq (g2 := F0 m 17 ls [.ref q9]) rfl ?_
      refine lv_astore (lv' := [(4, .ref q9), (0, .ref (ad 0)), (1, .int i), (2, .int r), (3, .ref (ad 2100))]) hx hb dL_read_17 hl (by decide) rfl (fun ls hl => ?_)
      refine lv_iconst (v := 2) hx hb dL_read_19 (by decide) ?_
      have hk0 : r1K S i r = 2 := hk
      have hne : ¬ r1K S i r = 0 := by rw [hk0]; decide
      have hk9 : rdK S (S 2 (nv i)) r i (r1K S i r) = 2 := (rdK_n hne).trans hk0
      exact ke_i hx hb hr hlocks (Nat.le_of_ble_eq_true rfl) (Nat.le_of_ble_eq_true rfl) dL_read_20 hW (OpP.thrown (by rw [rdN_n hne]; exact hC.s17) (by rw [rdN_n hne]; exact hN.s17) ho hk9 (by rw [hk9]; decide))
    · refine vx_catch hown [⟨0, 10, 13, 25⟩, ⟨0, 10, 17, 15⟩] ⟨0, 10, 21, 31⟩ [] (by rw [htab]; rfl) (fun z hz => (List.mem_cons.mp hz).elim (fun e9 => by subst e9; exact Or.inr ⟨by decide, "java/lang/IndexOutOfBoundsException", hts (.classLink RL 25 "java/lang/IndexOutOfBoundsException") (by decide +kernel), hE.C 11 rfl⟩) (fun hz => by obtain rfl := List.mem_singleton.mp hz; exact Or.inr ⟨by decide, "java/lang/IllegalStateException", hts (.classLink RL 15 "java/lang/IllegalStateException") (by decide +kernel), hE.C 10 rfl⟩)) rfl (by decide) (hts (.classLink RL 31 "java/util/NoSuchElementException") (by decide +kernel)) (va_Nw.use rfl (hE.N 35 rfl)) h1 h2 h3 ?_
      refine W.eq (g2 := F0 m 21 ls [.ref q9]) rfl ?_
      refine lv_astore (lv' := [(4, .ref q9), (0, .ref (ad 0)), (1, .int i), (2, .int r), (3, .ref (ad 2100))]) hx hb dL_read_21 hl (by decide) rfl (fun ls hl => ?_)
      refine lv_iconst (v := 3) hx hb dL_read_23 (by decide) ?_
      have hk0 : r1K S i r = 0 := hk
      have hk3 : ¬ (vaV (sS S 17 0) (S 2 (nv i)) r i).2 = 0 := hk2
      have hk9 : rdK S (S 2 (nv i)) r i (r1K S i r) = 3 := rdK_3 hk0 hk3
      exact ke_i hx hb hr hlocks (Nat.le_of_ble_eq_true rfl) (Nat.le_of_ble_eq_true rfl) dL_read_24 hW (OpP.thrown (by rw [rdN_3 hk0 hk3]; exact hC.s17.s16.s17) (by rw [rdN_3 hk0 hk3]; exact hN.s17.s16.s17) ho hk9 (by rw [hk9]; decide))
  · obtain ⟨e1, e2, hk, e3, hC2, hF⟩ := hp3
    rw [e3] at hW
    subst e1
    have hk0 : r1K S i r = 0 := hk
    have e5 : (vaV (sS S 17 0) (S 2 (nv i)) r i).2 = 0 := e2
    refine lv_i2l hx hb dL_read_8 rfl ?_
    refine kk_last hx hb hE hW ((hF 2100 (by decide)).1.trans ho) (by unfold vp_in; decide) dL_read_9 (fun H8 locs w6 e7 hW => ?_)
    refine lv_goto (tgt := 25) hx hb dL_read_10 (by decide) ?_
    refine lv_iconst (v := 0) hx hb dL_read_25 (by decide) ?_
    exact ke_i hx hb hr hlocks (Nat.le_of_ble_eq_true rfl) (Nat.le_of_ble_eq_true rfl) dL_read_26 hW (OpP.ok (by rw [rdN_0 hk0 e5]; exact hC2.rd) (by rw [rdN_0 hk0 e5]; exact (hN0.s16.s17).cl _) (by omega) (by omega) hF rfl e7 (rdK_0 hk0 e5) (by rw [rdR_0 hk0 e5] <;> rfl))

set_option maxHeartbeats 4000000 in
set_option maxRecDepth 100000 in
/-- k_L_readAt -/
theorem k_L_readAt (l : Launch) (hnt : l.stackTraces = false) (D : va_G) (A : Nat → Prop) (ad : Nat → Nat) (w : kWd) (S : St) (nT nC nD nM nZ : Nat) (hC : CW D S ad w nT nC) (hN : SN S nT nC nD nM nZ) (fo : Nat → Int64) (ho : w 2100 = some (.inl (D.1 102, 1, .inr (.inl fo)))) (mm r : Int32) : Met l yL_readAt wsL_readAt ({ frames := 8, cells := 8, slots := 60, locals := 147 }) (kPc D A [.ref (ad 0), .int mm, .int r, .ref (ad 2100)] ad w) (kQi D A (OpP D ad w (rdK S mm r (-1) (vrK S mm r)) (rdR S mm r (-1) (vrK S mm r)) (rdN S mm r (-1) (vrK S mm r)) nC nM)) 8 60 A := by
  refine va_MetW (hh := [(0, 10, 13, 25), (0, 10, 17, 13), (0, 10, 21, 31)]) (cc := cL_readAt) (maxL := 5) (ret := (some (.int))) (by decide) rfl ?_
  intro p e s m args below meth c s₁ B hml hv
  obtain ⟨rfl, hE, hW0, hI0, hA⟩ := hv
  have hx := B.exec
  have hb := B.bytes
  have hr := B.returns
  have hts := atoms_spec (ws := wsL_readAt) B.pre
  have hown : s.vm.findClass RL = some m.cls := findClass_of_methodNamed B.named
  have hlocks := B.notSynchronized
  have hW : kS D A s.heap ad w s.heap [] := ⟨hW0, hI0, va_S.rf, hA⟩
  have hl := lv_entry ([.ref (ad 0), .int mm, .int r, .ref (ad 2100)]) (n := 5) (Nat.le_of_ble_eq_true rfl)
  rw [lg_entry_eq]
  generalize (lg_sl ([.ref (ad 0), .int mm, .int r, .ref (ad 2100)]) ++ List.replicate (5 - (lg_sl ([.ref (ad 0), .int mm, .int r, .ref (ad 2100)])).length) Slot.unset).toArray = ls at hl ⊢
  have hl : lv_has ls 5 [(0, .ref (ad 0)), (1, .int mm), (2, .int r), (3, .ref (ad 2100))] := hl
  have htab : c.exceptionTable.toList = tableOf [(0, 10, 13, 25), (0, 10, 17, 13), (0, 10, 21, 31)] := vx_table (x := yL_readAt) B (hts (.codeWith yL_readAt cL_readAt 5 (some .int) [(0, 10, 13, 25), (0, 10, 17, 13), (0, 10, 21, 31)]) (by decide +kernel))
  have hC0 : CW D (sS S 17 0) ad w nT nC := hC.s17
  have hN0 : SN (sS S 17 0) nT nC nD nM nZ := hN.s17
  refine lv_aload_n hx hb dL_readAt_0 rfl (lv_at hl 3 rfl) ?_
  refine lv_iconst (v := 0) hx hb dL_readAt_1 (by decide) ?_
  refine lv_aload_n hx hb dL_readAt_2 rfl (lv_at hl 0 rfl) ?_
  refine lv_iload_n hx hb dL_readAt_3 rfl (lv_at hl 1 rfl) ?_
  refine lv_iload_n hx hb dL_readAt_4 rfl (lv_at hl 2 rfl) ?_
  refine kx_i (vx_runV (As := [.int mm, .int r]) (rest := [.int 0, .ref (ad 2100)]) ⟨hx, hb, hml, hown, hts⟩ (k_X5_readAt l hnt D A ad w (sS S 17 0) nT nC nD nM nZ hC0 hN0 mm r) (cwV 2 hts gL_readAt_X5_readAt rfl rfl rfl (by decide +kernel) ⟨Nat.le_of_ble_eq_true rfl, Nat.le_of_ble_eq_true rfl⟩) (kV hE hW hC.u rfl _) rfl rfl hl.1 rfl (lv_room (Nat.le_of_ble_eq_true rfl)) dL_readAt_5 ⟨Nat.le_of_ble_eq_true rfl, Nat.le_of_ble_eq_true rfl⟩) hW (fun E ce q9 H locs hpx hW h1 h2 h3 => ?_) (fun r4 ad1 w2 H5 locs hp3 hW => ?_)
  · rcases hpx with ⟨rfl, hk⟩ | ⟨rfl, hk⟩ | ⟨rfl, hk, hk2⟩
    · refine vx_catch hown [] ⟨0, 10, 13, 25⟩ [⟨0, 10, 17, 13⟩, ⟨0, 10, 21, 31⟩] (by rw [htab]; rfl) (fun z hz => absurd hz List.not_mem_nil) rfl (by decide) (hts (.classLink RL 25 "java/lang/IndexOutOfBoundsException") (by decide +kernel)) (va_Nw.use rfl (hE.N 34 rfl)) h1 h2 h3 ?_
      refine W.eq (g2 := F0 m 13 ls [.ref q9]) rfl ?_
      refine lv_astore (lv' := [(4, .ref q9), (0, .ref (ad 0)), (1, .int mm), (2, .int r), (3, .ref (ad 2100))]) hx hb dL_readAt_13 hl (by decide) rfl (fun ls hl => ?_)
      refine lv_iconst (v := 1) hx hb dL_readAt_15 (by decide) ?_
      have hk0 : vrK S mm r = 1 := hk
      have hne : ¬ vrK S mm r = 0 := by rw [hk0]; decide
      have hk9 : rdK S mm r (-1) (vrK S mm r) = 1 := (rdK_n hne).trans hk0
      exact ke_i hx hb hr hlocks (Nat.le_of_ble_eq_true rfl) (Nat.le_of_ble_eq_true rfl) dL_readAt_16 hW (OpP.thrown (by rw [rdN_n hne]; exact hC.s17) (by rw [rdN_n hne]; exact hN.s17) ho hk9 (by rw [hk9]; decide))
    · refine vx_catch hown [⟨0, 10, 13, 25⟩] ⟨0, 10, 17, 13⟩ [⟨0, 10, 21, 31⟩] (by rw [htab]; rfl) (fun z hz => by obtain rfl := List.mem_singleton.mp hz; exact Or.inr ⟨by decide, "java/lang/IndexOutOfBoundsException", hts (.classLink RL 25 "java/lang/IndexOutOfBoundsException") (by decide +kernel), hE.C 1 rfl⟩) rfl (by decide) (hts (.classLink RL 13 "java/lang/IllegalArgumentException") (by decide +kernel)) (va_Nw.use rfl (hE.N 32 rfl)) h1 h2 h3 ?_
      refine W.eq (g2 := F0 m 17 ls [.ref q9]) rfl ?_
      refine lv_astore (lv' := [(4, .ref q9), (0, .ref (ad 0)), (1, .int mm), (2, .int r), (3, .ref (ad 2100))]) hx hb dL_readAt_17 hl (by decide) rfl (fun ls hl => ?_)
      refine lv_iconst (v := 2) hx hb dL_readAt_19 (by decide) ?_
      have hk0 : vrK S mm r = 2 := hk
      have hne : ¬ vrK S mm r = 0 := by rw [hk0]; decide
      have hk9 : rdK S mm r (-1) (vrK S mm r) = 2 := (rdK_n hne).trans hk0
      exact ke_i hx hb hr hlocks (Nat.le_of_ble_eq_true rfl) (Nat.le_of_ble_eq_true rfl) dL_readAt_20 hW (OpP.thrown (by rw [rdN_n hne]; exact hC.s17) (by rw [rdN_n hne]; exact hN.s17) ho hk9 (by rw [hk9]; decide))
    · refine vx_catch hown [⟨0, 10, 13, 25⟩, ⟨0, 10, 17, 13⟩] ⟨0, 10, 21, 31⟩ [] (by rw [htab]; rfl) (fun z hz => (List.mem_cons.mp hz).elim (fun e9 => by subst e9; exact Or.inr ⟨by decide, "java/lang/IndexOutOfBoundsException", hts (.classLink RL 25 "java/lang/IndexOutOfBoundsException") (by decide +kernel), hE.C 11 rfl⟩) (fun hz => by obtain rfl := List.mem_singleton.mp hz; exact Or.inr ⟨by decide, "java/lang/IllegalArgumentException", hts (.classLink RL 13 "java/lang/IllegalArgumentException") (by decide +kernel), hE.C 9 rfl⟩)) rfl (by decide) (hts (.classLink RL 31 "java/util/NoSuchElementException") (by decide +kernel)) (va_Nw.use rfl (hE.N 35 rfl)) h1 h2 h3 ?_
      refine W.eq (g2 := F0 m 21 ls [.ref q9]) rfl ?_
      refine lv_astore (lv' := [(4, .ref q9), (0, .ref (ad 0)), (1, .int mm), (2, .int r), (3, .ref (ad 2100))]) hx hb dL_readAt_21 hl (by decide) rfl (fun ls hl => ?_)
      refine lv_iconst (v := 3) hx hb dL_readAt_23 (by decide) ?_
      have hk0 : vrK S mm r = 0 := hk
      have hk3 : ¬ (vaV (sS S 17 0) mm r (-1)).2 = 0 := hk2
      have hk9 : rdK S mm r (-1) (vrK S mm r) = 3 := rdK_3 hk0 hk3
      exact ke_i hx hb hr hlocks (Nat.le_of_ble_eq_true rfl) (Nat.le_of_ble_eq_true rfl) dL_readAt_24 hW (OpP.thrown (by rw [rdN_3 hk0 hk3]; exact hC.s17.s16.s17) (by rw [rdN_3 hk0 hk3]; exact hN.s17.s16.s17) ho hk9 (by rw [hk9]; decide))
  · obtain ⟨e1, e2, hk, e3, hC2, hF⟩ := hp3
    rw [e3] at hW
    subst e1
    have hk0 : vrK S mm r = 0 := hk
    have e5 : (vaV (sS S 17 0) mm r (-1)).2 = 0 := e2
    refine lv_i2l hx hb dL_readAt_8 rfl ?_
    refine kk_last hx hb hE hW ((hF 2100 (by decide)).1.trans ho) (by unfold vp_in; decide) dL_readAt_9 (fun H8 locs w6 e7 hW => ?_)
    refine lv_goto (tgt := 25) hx hb dL_readAt_10 (by decide) ?_
    refine lv_iconst (v := 0) hx hb dL_readAt_25 (by decide) ?_
    exact ke_i hx hb hr hlocks (Nat.le_of_ble_eq_true rfl) (Nat.le_of_ble_eq_true rfl) dL_readAt_26 hW (OpP.ok (by rw [rdN_0 hk0 e5]; exact hC2.rd) (by rw [rdN_0 hk0 e5]; exact (hN0.s16.s17).cl _) (by omega) (by omega) hF rfl e7 (rdK_0 hk0 e5) (by rw [rdR_0 hk0 e5] <;> rfl))

set_option maxHeartbeats 4000000 in
set_option maxRecDepth 100000 in
/-- k_L_save -/
theorem k_L_save (l : Launch) (hnt : l.stackTraces = false) (D : va_G) (A : Nat → Prop) (ad : Nat → Nat) (w : kWd) (S : St) (nT nC nD nM nZ : Nat) (hC : CW D S ad w nT nC) (hN : SN S nT nC nD nM nZ) (fo : Nat → Int64) (ho : w 2100 = some (.inl (D.1 102, 1, .inr (.inl fo)))) (i : Int32) : Met l yL_save wsL_save ({ frames := 8, cells := 8, slots := 60, locals := 143 }) (kPc D A [.ref (ad 0), .int i, .ref (ad 2100)] ad w) (kQi D A (OpP D ad w (opK S i) (saR S i) (sS S 17 (opK S i)) nC nM)) 8 60 A := by
  refine va_MetW (hh := [(0, 9, 12, 25), (0, 9, 15, 15)]) (cc := cL_save) (maxL := 4) (ret := (some (.int))) (by decide) rfl ?_
  intro p e s m args below meth c s₁ B hml hv
  obtain ⟨rfl, hE, hW0, hI0, hA⟩ := hv
  have hx := B.exec
  have hb := B.bytes
  have hr := B.returns
  have hts := atoms_spec (ws := wsL_save) B.pre
  have hown : s.vm.findClass RL = some m.cls := findClass_of_methodNamed B.named
  have hlocks := B.notSynchronized
  have hW : kS D A s.heap ad w s.heap [] := ⟨hW0, hI0, va_S.rf, hA⟩
  have hl := lv_entry ([.ref (ad 0), .int i, .ref (ad 2100)]) (n := 4) (Nat.le_of_ble_eq_true rfl)
  rw [lg_entry_eq]
  generalize (lg_sl ([.ref (ad 0), .int i, .ref (ad 2100)]) ++ List.replicate (4 - (lg_sl ([.ref (ad 0), .int i, .ref (ad 2100)])).length) Slot.unset).toArray = ls at hl ⊢
  have hl : lv_has ls 4 [(0, .ref (ad 0)), (1, .int i), (2, .ref (ad 2100))] := hl
  have htab : c.exceptionTable.toList = tableOf [(0, 9, 12, 25), (0, 9, 15, 15)] := vx_table (x := yL_save) B (hts (.codeWith yL_save cL_save 4 (some .int) [(0, 9, 12, 25), (0, 9, 15, 15)]) (by decide +kernel))
  have hC0 : CW D (sS S 17 0) ad w nT nC := hC.s17
  have hN0 : SN (sS S 17 0) nT nC nD nM nZ := hN.s17
  refine lv_aload_n hx hb dL_save_0 rfl (lv_at hl 2 rfl) ?_
  refine lv_iconst (v := 0) hx hb dL_save_1 (by decide) ?_
  refine lv_aload_n hx hb dL_save_2 rfl (lv_at hl 0 rfl) ?_
  refine lv_iload_n hx hb dL_save_3 rfl (lv_at hl 1 rfl) ?_
  refine kx_i (vx_runV (As := [.int i]) (rest := [.int 0, .ref (ad 2100)]) ⟨hx, hb, hml, hown, hts⟩ (k_X5_save l hnt D A ad w (sS S 17 0) nT nC nD nM nZ hC0 hN0 i) (cwV 1 hts gL_save_X5_save rfl rfl rfl (by decide +kernel) ⟨Nat.le_of_ble_eq_true rfl, Nat.le_of_ble_eq_true rfl⟩) (kV hE hW hC.u rfl _) rfl rfl hl.1 rfl (lv_room (Nat.le_of_ble_eq_true rfl)) dL_save_4 ⟨Nat.le_of_ble_eq_true rfl, Nat.le_of_ble_eq_true rfl⟩) hW (fun E ce q9 H locs hpx hW h1 h2 h3 => ?_) (fun r4 ad1 w2 H5 locs hp3 hW => ?_)
  · rcases hpx with ⟨rfl, hk⟩ | ⟨rfl, hk⟩
    · refine vx_catch hown [] ⟨0, 9, 12, 25⟩ [⟨0, 9, 15, 15⟩] (by rw [htab]; rfl) (fun z hz => absurd hz List.not_mem_nil) rfl (by decide) (hts (.classLink RL 25 "java/lang/IndexOutOfBoundsException") (by decide +kernel)) (va_Nw.use rfl (hE.N 34 rfl)) h1 h2 h3 ?_
      refine W.eq (g2 := F0 m 12 ls [.ref q9]) rfl ?_
      refine lv_astore_n (lv' := [(3, .ref q9), (0, .ref (ad 0)), (1, .int i), (2, .ref (ad 2100))]) hx hb dL_save_12 rfl hl (by decide) rfl (fun ls hl => ?_)
      refine lv_iconst (v := 1) hx hb dL_save_13 (by decide) ?_
      have hk9 : opK S i = 1 := hk
      exact ke_i hx hb hr hlocks (Nat.le_of_ble_eq_true rfl) (Nat.le_of_ble_eq_true rfl) dL_save_14 hW (OpP.thrown hC.s17 hN.s17 ho hk9 (by rw [hk9]; decide))
    · refine vx_catch hown [⟨0, 9, 12, 25⟩] ⟨0, 9, 15, 15⟩ [] (by rw [htab]; rfl) (fun z hz => by obtain rfl := List.mem_singleton.mp hz; exact Or.inr ⟨by decide, "java/lang/IndexOutOfBoundsException", hts (.classLink RL 25 "java/lang/IndexOutOfBoundsException") (by decide +kernel), hE.C 4 rfl⟩) rfl (by decide) (hts (.classLink RL 15 "java/lang/IllegalStateException") (by decide +kernel)) (va_Nw.use rfl (hE.N 33 rfl)) h1 h2 h3 ?_
      refine W.eq (g2 := F0 m 15 ls [.ref q9]) rfl ?_
      refine lv_astore_n (lv' := [(3, .ref q9), (0, .ref (ad 0)), (1, .int i), (2, .ref (ad 2100))]) hx hb dL_save_15 rfl hl (by decide) rfl (fun ls hl => ?_)
      refine lv_iconst (v := 2) hx hb dL_save_16 (by decide) ?_
      have hk9 : opK S i = 2 := hk
      exact ke_i hx hb hr hlocks (Nat.le_of_ble_eq_true rfl) (Nat.le_of_ble_eq_true rfl) dL_save_17 hW (OpP.thrown hC.s17 hN.s17 ho hk9 (by rw [hk9]; decide))
  · obtain ⟨e1, hk, e3, e4⟩ := hp3
    rw [e3, e4] at hW
    subst e1
    have hk9 : opK S i = 0 := hk
    refine lv_i2l hx hb dL_save_7 rfl ?_
    refine kk_last hx hb hE hW ho (by unfold vp_in; decide) dL_save_8 (fun H8 locs w6 e7 hW => ?_)
    refine lv_goto (tgt := 18) hx hb dL_save_9 (by decide) ?_
    refine lv_iconst (v := 0) hx hb dL_save_18 (by decide) ?_
    exact ke_i hx hb hr hlocks (Nat.le_of_ble_eq_true rfl) (Nat.le_of_ble_eq_true rfl) dL_save_19 hW (OpP.ok hC.s17 hN.s17 (by omega) (by omega) FrC.rf rfl e7 hk9 (by rw [show saR S i = _ from if_pos hk9]; rw [hk9]))

set_option maxHeartbeats 4000000 in
set_option maxRecDepth 100000 in
/-- k_L_now -/
theorem k_L_now (l : Launch) (hnt : l.stackTraces = false) (D : va_G) (A : Nat → Prop) (ad : Nat → Nat) (w : kWd) (S : St) (nT nC nD nM nZ : Nat) (hC : CW D S ad w nT nC) (hN : SN S nT nC nD nM nZ) (fo : Nat → Int64) (ho : w 2100 = some (.inl (D.1 102, 1, .inr (.inl fo)))) (r : Int32) : Met l yL_now wsL_now ({ frames := 8, cells := 8, slots := 60, locals := 142 }) (kPc D A [.ref (ad 0), .int r, .ref (ad 2100)] ad w) (kQi D A (OpP D ad w (noK r) (noR S r) (sS S 17 (noK r)) nC nM)) 8 60 A := by
  refine va_MetW (hh := [(0, 9, 12, 25)]) (cc := cL_now) (maxL := 4) (ret := (some (.int))) (by decide) rfl ?_
  intro p e s m args below meth c s₁ B hml hv
  obtain ⟨rfl, hE, hW0, hI0, hA⟩ := hv
  have hx := B.exec
  have hb := B.bytes
  have hr := B.returns
  have hts := atoms_spec (ws := wsL_now) B.pre
  have hown : s.vm.findClass RL = some m.cls := findClass_of_methodNamed B.named
  have hlocks := B.notSynchronized
  have hW : kS D A s.heap ad w s.heap [] := ⟨hW0, hI0, va_S.rf, hA⟩
  have hl := lv_entry ([.ref (ad 0), .int r, .ref (ad 2100)]) (n := 4) (Nat.le_of_ble_eq_true rfl)
  rw [lg_entry_eq]
  generalize (lg_sl ([.ref (ad 0), .int r, .ref (ad 2100)]) ++ List.replicate (4 - (lg_sl ([.ref (ad 0), .int r, .ref (ad 2100)])).length) Slot.unset).toArray = ls at hl ⊢
  have hl : lv_has ls 4 [(0, .ref (ad 0)), (1, .int r), (2, .ref (ad 2100))] := hl
  have htab : c.exceptionTable.toList = tableOf [(0, 9, 12, 25)] := vx_table (x := yL_now) B (hts (.codeWith yL_now cL_now 4 (some .int) [(0, 9, 12, 25)]) (by decide +kernel))
  have hC0 : CW D (sS S 17 0) ad w nT nC := hC.s17
  have hN0 : SN (sS S 17 0) nT nC nD nM nZ := hN.s17
  refine lv_aload_n hx hb dL_now_0 rfl (lv_at hl 2 rfl) ?_
  refine lv_iconst (v := 0) hx hb dL_now_1 (by decide) ?_
  refine lv_aload_n hx hb dL_now_2 rfl (lv_at hl 0 rfl) ?_
  refine lv_iload_n hx hb dL_now_3 rfl (lv_at hl 1 rfl) ?_
  refine kx_i (vx_runV (As := [.int r]) (rest := [.int 0, .ref (ad 2100)]) ⟨hx, hb, hml, hown, hts⟩ (k_X5_now l hnt D A ad w (sS S 17 0) nT nC nD nM nZ hC0 hN0 r) (cwV 1 hts gL_now_X5_now rfl rfl rfl (by decide +kernel) ⟨Nat.le_of_ble_eq_true rfl, Nat.le_of_ble_eq_true rfl⟩) (kV hE hW hC.u rfl _) rfl rfl hl.1 rfl (lv_room (Nat.le_of_ble_eq_true rfl)) dL_now_4 ⟨Nat.le_of_ble_eq_true rfl, Nat.le_of_ble_eq_true rfl⟩) hW (fun E ce q9 H locs hpx hW h1 h2 h3 => ?_) (fun r4 ad1 w2 H5 locs hp3 hW => ?_)
  · obtain ⟨rfl, hk⟩ := hpx
    refine vx_catch hown [] ⟨0, 9, 12, 25⟩ [] (by rw [htab]; rfl) (fun z hz => absurd hz List.not_mem_nil) rfl (by decide) (hts (.classLink RL 25 "java/lang/IndexOutOfBoundsException") (by decide +kernel)) (va_Nw.use rfl (hE.N 34 rfl)) h1 h2 h3 ?_
    refine W.eq (g2 := F0 m 12 ls [.ref q9]) rfl ?_
    refine lv_astore_n (lv' := [(3, .ref q9), (0, .ref (ad 0)), (1, .int r), (2, .ref (ad 2100))]) hx hb dL_now_12 rfl hl (by decide) rfl (fun ls hl => ?_)
    refine lv_iconst (v := 1) hx hb dL_now_13 (by decide) ?_
    have hk9 : noK r = 1 := hk
    exact ke_i hx hb hr hlocks (Nat.le_of_ble_eq_true rfl) (Nat.le_of_ble_eq_true rfl) dL_now_14 hW (OpP.thrown hC.s17 hN.s17 ho hk9 (by rw [hk9]; decide))
  · obtain ⟨e1, hk, e3, e4⟩ := hp3
    rw [e3, e4] at hW
    subst e1
    have hk9 : noK r = 0 := hk
    refine lv_i2l hx hb dL_now_7 rfl ?_
    refine kk_last hx hb hE hW ho (by unfold vp_in; decide) dL_now_8 (fun H8 locs w6 e7 hW => ?_)
    refine lv_goto (tgt := 15) hx hb dL_now_9 (by decide) ?_
    refine lv_iconst (v := 0) hx hb dL_now_15 (by decide) ?_
    exact ke_i hx hb hr hlocks (Nat.le_of_ble_eq_true rfl) (Nat.le_of_ble_eq_true rfl) dL_now_16 hW (OpP.ok hC.s17 hN.s17 (by omega) (by omega) FrC.rf rfl e7 hk9 (by rw [show noR S r = _ from if_pos hk9]; rfl))

set_option maxHeartbeats 4000000 in
set_option maxRecDepth 100000 in
/-- k_L_lockOf -/
theorem k_L_lockOf (l : Launch) (hnt : l.stackTraces = false) (D : va_G) (A : Nat → Prop) (ad : Nat → Nat) (w : kWd) (S : St) (nT nC nD nM nZ : Nat) (hC : CW D S ad w nT nC) (hN : SN S nT nC nD nM nZ) (fo : Nat → Int64) (ho : w 2100 = some (.inl (D.1 102, 1, .inr (.inl fo)))) (r : Int32) : Met l yL_lockOf wsL_lockOf ({ frames := 8, cells := 8, slots := 60, locals := 143 }) (kPc D A [.ref (ad 0), .int r, .ref (ad 2100)] ad w) (kQi D A (OpP D ad w (noK r) (loR S r) (sS S 17 (noK r)) nC nM)) 8 60 A := by
  refine va_MetW (hh := [(0, 9, 12, 25)]) (cc := cL_lockOf) (maxL := 4) (ret := (some (.int))) (by decide) rfl ?_
  intro p e s m args below meth c s₁ B hml hv
  obtain ⟨rfl, hE, hW0, hI0, hA⟩ := hv
  have hx := B.exec
  have hb := B.bytes
  have hr := B.returns
  have hts := atoms_spec (ws := wsL_lockOf) B.pre
  have hown : s.vm.findClass RL = some m.cls := findClass_of_methodNamed B.named
  have hlocks := B.notSynchronized
  have hW : kS D A s.heap ad w s.heap [] := ⟨hW0, hI0, va_S.rf, hA⟩
  have hl := lv_entry ([.ref (ad 0), .int r, .ref (ad 2100)]) (n := 4) (Nat.le_of_ble_eq_true rfl)
  rw [lg_entry_eq]
  generalize (lg_sl ([.ref (ad 0), .int r, .ref (ad 2100)]) ++ List.replicate (4 - (lg_sl ([.ref (ad 0), .int r, .ref (ad 2100)])).length) Slot.unset).toArray = ls at hl ⊢
  have hl : lv_has ls 4 [(0, .ref (ad 0)), (1, .int r), (2, .ref (ad 2100))] := hl
  have htab : c.exceptionTable.toList = tableOf [(0, 9, 12, 25)] := vx_table (x := yL_lockOf) B (hts (.codeWith yL_lockOf cL_lockOf 4 (some .int) [(0, 9, 12, 25)]) (by decide +kernel))
  have hC0 : CW D (sS S 17 0) ad w nT nC := hC.s17
  have hN0 : SN (sS S 17 0) nT nC nD nM nZ := hN.s17
  refine lv_aload_n hx hb dL_lockOf_0 rfl (lv_at hl 2 rfl) ?_
  refine lv_iconst (v := 0) hx hb dL_lockOf_1 (by decide) ?_
  refine lv_aload_n hx hb dL_lockOf_2 rfl (lv_at hl 0 rfl) ?_
  refine lv_iload_n hx hb dL_lockOf_3 rfl (lv_at hl 1 rfl) ?_
  refine kx_i (vx_runV (As := [.int r]) (rest := [.int 0, .ref (ad 2100)]) ⟨hx, hb, hml, hown, hts⟩ (k_X5_lockOf l hnt D A ad w (sS S 17 0) nT nC nD nM nZ hC0 hN0 r) (cwV 1 hts gL_lockOf_X5_lockOf rfl rfl rfl (by decide +kernel) ⟨Nat.le_of_ble_eq_true rfl, Nat.le_of_ble_eq_true rfl⟩) (kV hE hW hC.u rfl _) rfl rfl hl.1 rfl (lv_room (Nat.le_of_ble_eq_true rfl)) dL_lockOf_4 ⟨Nat.le_of_ble_eq_true rfl, Nat.le_of_ble_eq_true rfl⟩) hW (fun E ce q9 H locs hpx hW h1 h2 h3 => ?_) (fun r4 ad1 w2 H5 locs hp3 hW => ?_)
  · obtain ⟨rfl, hk⟩ := hpx
    refine vx_catch hown [] ⟨0, 9, 12, 25⟩ [] (by rw [htab]; rfl) (fun z hz => absurd hz List.not_mem_nil) rfl (by decide) (hts (.classLink RL 25 "java/lang/IndexOutOfBoundsException") (by decide +kernel)) (va_Nw.use rfl (hE.N 34 rfl)) h1 h2 h3 ?_
    refine W.eq (g2 := F0 m 12 ls [.ref q9]) rfl ?_
    refine lv_astore_n (lv' := [(3, .ref q9), (0, .ref (ad 0)), (1, .int r), (2, .ref (ad 2100))]) hx hb dL_lockOf_12 rfl hl (by decide) rfl (fun ls hl => ?_)
    refine lv_iconst (v := 1) hx hb dL_lockOf_13 (by decide) ?_
    have hk9 : noK r = 1 := hk
    exact ke_i hx hb hr hlocks (Nat.le_of_ble_eq_true rfl) (Nat.le_of_ble_eq_true rfl) dL_lockOf_14 hW (OpP.thrown hC.s17 hN.s17 ho hk9 (by rw [hk9]; decide))
  · obtain ⟨e1, hk, e3, e4⟩ := hp3
    rw [e3, e4] at hW
    subst e1
    have hk9 : noK r = 0 := hk
    refine lv_i2l hx hb dL_lockOf_7 rfl ?_
    refine kk_last hx hb hE hW ho (by unfold vp_in; decide) dL_lockOf_8 (fun H8 locs w6 e7 hW => ?_)
    refine lv_goto (tgt := 15) hx hb dL_lockOf_9 (by decide) ?_
    refine lv_iconst (v := 0) hx hb dL_lockOf_15 (by decide) ?_
    exact ke_i hx hb hr hlocks (Nat.le_of_ble_eq_true rfl) (Nat.le_of_ble_eq_true rfl) dL_lockOf_16 hW (OpP.ok hC.s17 hN.s17 (by omega) (by omega) FrC.rf rfl e7 hk9 (by rw [show loR S r = _ from if_pos hk9]; rw [hk9]))

set_option maxHeartbeats 4000000 in
set_option maxRecDepth 100000 in
/-- k_L_slotOf -/
theorem k_L_slotOf (l : Launch) (hnt : l.stackTraces = false) (D : va_G) (A : Nat → Prop) (ad : Nat → Nat) (w : kWd) (S : St) (nT nC nD nM nZ : Nat) (hC : CW D S ad w nT nC) (hN : SN S nT nC nD nM nZ) (fo : Nat → Int64) (ho : w 2100 = some (.inl (D.1 102, 1, .inr (.inl fo)))) (b k : Int32) : Met l yL_slotOf wsL_slotOf ({ frames := 8, cells := 8, slots := 60, locals := 146 }) (kPc D A [.ref (ad 0), .int b, .int k, .ref (ad 2100)] ad w) (kQi D A (OpP D ad w (soK b k) (soR S b k) (sS S 17 (soK b k)) nC nM)) 8 60 A := by
  refine va_MetW (hh := [(0, 10, 13, 25)]) (cc := cL_slotOf) (maxL := 5) (ret := (some (.int))) (by decide) rfl ?_
  intro p e s m args below meth c s₁ B hml hv
  obtain ⟨rfl, hE, hW0, hI0, hA⟩ := hv
  have hx := B.exec
  have hb := B.bytes
  have hr := B.returns
  have hts := atoms_spec (ws := wsL_slotOf) B.pre
  have hown : s.vm.findClass RL = some m.cls := findClass_of_methodNamed B.named
  have hlocks := B.notSynchronized
  have hW : kS D A s.heap ad w s.heap [] := ⟨hW0, hI0, va_S.rf, hA⟩
  have hl := lv_entry ([.ref (ad 0), .int b, .int k, .ref (ad 2100)]) (n := 5) (Nat.le_of_ble_eq_true rfl)
  rw [lg_entry_eq]
  generalize (lg_sl ([.ref (ad 0), .int b, .int k, .ref (ad 2100)]) ++ List.replicate (5 - (lg_sl ([.ref (ad 0), .int b, .int k, .ref (ad 2100)])).length) Slot.unset).toArray = ls at hl ⊢
  have hl : lv_has ls 5 [(0, .ref (ad 0)), (1, .int b), (2, .int k), (3, .ref (ad 2100))] := hl
  have htab : c.exceptionTable.toList = tableOf [(0, 10, 13, 25)] := vx_table (x := yL_slotOf) B (hts (.codeWith yL_slotOf cL_slotOf 5 (some .int) [(0, 10, 13, 25)]) (by decide +kernel))
  have hC0 : CW D (sS S 17 0) ad w nT nC := hC.s17
  have hN0 : SN (sS S 17 0) nT nC nD nM nZ := hN.s17
  refine lv_aload_n hx hb dL_slotOf_0 rfl (lv_at hl 3 rfl) ?_
  refine lv_iconst (v := 0) hx hb dL_slotOf_1 (by decide) ?_
  refine lv_aload_n hx hb dL_slotOf_2 rfl (lv_at hl 0 rfl) ?_
  refine lv_iload_n hx hb dL_slotOf_3 rfl (lv_at hl 1 rfl) ?_
  refine lv_iload_n hx hb dL_slotOf_4 rfl (lv_at hl 2 rfl) ?_
  refine kx_i (vx_runV (As := [.int b, .int k]) (rest := [.int 0, .ref (ad 2100)]) ⟨hx, hb, hml, hown, hts⟩ (k_X5_slotOf l hnt D A ad w (sS S 17 0) nT nC nD nM nZ hC0 hN0 b k) (cwV 2 hts gL_slotOf_X5_slotOf rfl rfl rfl (by decide +kernel) ⟨Nat.le_of_ble_eq_true rfl, Nat.le_of_ble_eq_true rfl⟩) (kV hE hW hC.u rfl _) rfl rfl hl.1 rfl (lv_room (Nat.le_of_ble_eq_true rfl)) dL_slotOf_5 ⟨Nat.le_of_ble_eq_true rfl, Nat.le_of_ble_eq_true rfl⟩) hW (fun E ce q9 H locs hpx hW h1 h2 h3 => ?_) (fun r4 ad1 w2 H5 locs hp3 hW => ?_)
  · obtain ⟨rfl, hk⟩ := hpx
    refine vx_catch hown [] ⟨0, 10, 13, 25⟩ [] (by rw [htab]; rfl) (fun z hz => absurd hz List.not_mem_nil) rfl (by decide) (hts (.classLink RL 25 "java/lang/IndexOutOfBoundsException") (by decide +kernel)) (va_Nw.use rfl (hE.N 34 rfl)) h1 h2 h3 ?_
    refine W.eq (g2 := F0 m 13 ls [.ref q9]) rfl ?_
    refine lv_astore (lv' := [(4, .ref q9), (0, .ref (ad 0)), (1, .int b), (2, .int k), (3, .ref (ad 2100))]) hx hb dL_slotOf_13 hl (by decide) rfl (fun ls hl => ?_)
    refine lv_iconst (v := 1) hx hb dL_slotOf_15 (by decide) ?_
    have hk9 : soK b k = 1 := hk
    exact ke_i hx hb hr hlocks (Nat.le_of_ble_eq_true rfl) (Nat.le_of_ble_eq_true rfl) dL_slotOf_16 hW (OpP.thrown hC.s17 hN.s17 ho hk9 (by rw [hk9]; decide))
  · obtain ⟨e1, hk, e3, e4⟩ := hp3
    rw [e3, e4] at hW
    subst e1
    have hk9 : soK b k = 0 := hk
    refine lv_i2l hx hb dL_slotOf_8 rfl ?_
    refine kk_last hx hb hE hW ho (by unfold vp_in; decide) dL_slotOf_9 (fun H8 locs w6 e7 hW => ?_)
    refine lv_goto (tgt := 17) hx hb dL_slotOf_10 (by decide) ?_
    refine lv_iconst (v := 0) hx hb dL_slotOf_17 (by decide) ?_
    exact ke_i hx hb hr hlocks (Nat.le_of_ble_eq_true rfl) (Nat.le_of_ble_eq_true rfl) dL_slotOf_18 hW (OpP.ok hC.s17 hN.s17 (by omega) (by omega) FrC.rf rfl e7 hk9 (by rw [show soR S b k = _ from if_pos hk9]; rfl))

set_option maxHeartbeats 4000000 in
set_option maxRecDepth 100000 in
/-- k_L_versionAt -/
theorem k_L_versionAt (l : Launch) (hnt : l.stackTraces = false) (D : va_G) (A : Nat → Prop) (ad : Nat → Nat) (w : kWd) (S : St) (nT nC nD nM nZ : Nat) (hC : CW D S ad w nT nC) (hN : SN S nT nC nD nM nZ) (fo : Nat → Int64) (ho : w 2100 = some (.inl (D.1 102, 1, .inr (.inl fo)))) (mm r : Int32) : Met l yL_versionAt wsL_versionAt ({ frames := 8, cells := 8, slots := 60, locals := 144 }) (kPc D A [.ref (ad 0), .int mm, .int r, .ref (ad 2100)] ad w) (kQi D A (OpP D ad w (vrK S mm r) (vrR S mm r) (vrN S mm r) nC nM)) 8 60 A := by
  refine va_MetW (hh := [(0, 10, 13, 25), (0, 10, 17, 13)]) (cc := cL_versionAt) (maxL := 5) (ret := (some (.int))) (by decide) rfl ?_
  intro p e s m args below meth c s₁ B hml hv
  obtain ⟨rfl, hE, hW0, hI0, hA⟩ := hv
  have hx := B.exec
  have hb := B.bytes
  have hr := B.returns
  have hts := atoms_spec (ws := wsL_versionAt) B.pre
  have hown : s.vm.findClass RL = some m.cls := findClass_of_methodNamed B.named
  have hlocks := B.notSynchronized
  have hW : kS D A s.heap ad w s.heap [] := ⟨hW0, hI0, va_S.rf, hA⟩
  have hl := lv_entry ([.ref (ad 0), .int mm, .int r, .ref (ad 2100)]) (n := 5) (Nat.le_of_ble_eq_true rfl)
  rw [lg_entry_eq]
  generalize (lg_sl ([.ref (ad 0), .int mm, .int r, .ref (ad 2100)]) ++ List.replicate (5 - (lg_sl ([.ref (ad 0), .int mm, .int r, .ref (ad 2100)])).length) Slot.unset).toArray = ls at hl ⊢
  have hl : lv_has ls 5 [(0, .ref (ad 0)), (1, .int mm), (2, .int r), (3, .ref (ad 2100))] := hl
  have htab : c.exceptionTable.toList = tableOf [(0, 10, 13, 25), (0, 10, 17, 13)] := vx_table (x := yL_versionAt) B (hts (.codeWith yL_versionAt cL_versionAt 5 (some .int) [(0, 10, 13, 25), (0, 10, 17, 13)]) (by decide +kernel))
  have hC0 : CW D (sS S 17 0) ad w nT nC := hC.s17
  have hN0 : SN (sS S 17 0) nT nC nD nM nZ := hN.s17
  refine lv_aload_n hx hb dL_versionAt_0 rfl (lv_at hl 3 rfl) ?_
  refine lv_iconst (v := 0) hx hb dL_versionAt_1 (by decide) ?_
  refine lv_aload_n hx hb dL_versionAt_2 rfl (lv_at hl 0 rfl) ?_
  refine lv_iload_n hx hb dL_versionAt_3 rfl (lv_at hl 1 rfl) ?_
  refine lv_iload_n hx hb dL_versionAt_4 rfl (lv_at hl 2 rfl) ?_
  refine kx_i (vx_runV (As := [.int mm, .int r]) (rest := [.int 0, .ref (ad 2100)]) ⟨hx, hb, hml, hown, hts⟩ (k_X5_versionAt l hnt D A ad w (sS S 17 0) nT nC nD nM nZ hC0 hN0 mm r) (cwV 2 hts gL_versionAt_X5_versionAt rfl rfl rfl (by decide +kernel) ⟨Nat.le_of_ble_eq_true rfl, Nat.le_of_ble_eq_true rfl⟩) (kV hE hW hC.u rfl _) rfl rfl hl.1 rfl (lv_room (Nat.le_of_ble_eq_true rfl)) dL_versionAt_5 ⟨Nat.le_of_ble_eq_true rfl, Nat.le_of_ble_eq_true rfl⟩) hW (fun E ce q9 H locs hpx hW h1 h2 h3 => ?_) (fun r4 ad1 w2 H5 locs hp3 hW => ?_)
  · rcases hpx with ⟨rfl, hk⟩ | ⟨rfl, hk⟩
    · refine vx_catch hown [] ⟨0, 10, 13, 25⟩ [⟨0, 10, 17, 13⟩] (by rw [htab]; rfl) (fun z hz => absurd hz List.not_mem_nil) rfl (by decide) (hts (.classLink RL 25 "java/lang/IndexOutOfBoundsException") (by decide +kernel)) (va_Nw.use rfl (hE.N 34 rfl)) h1 h2 h3 ?_
      refine W.eq (g2 := F0 m 13 ls [.ref q9]) rfl ?_
      refine lv_astore (lv' := [(4, .ref q9), (0, .ref (ad 0)), (1, .int mm), (2, .int r), (3, .ref (ad 2100))]) hx hb dL_versionAt_13 hl (by decide) rfl (fun ls hl => ?_)
      refine lv_iconst (v := 1) hx hb dL_versionAt_15 (by decide) ?_
      have hk9 : vrK S mm r = 1 := hk
      exact ke_i hx hb hr hlocks (Nat.le_of_ble_eq_true rfl) (Nat.le_of_ble_eq_true rfl) dL_versionAt_16 hW (OpP.thrown (by rw [vrN_n (by rw [hk9]; decide)]; exact hC.s17) (by rw [vrN_n (by rw [hk9]; decide)]; exact hN.s17) ho hk9 (by rw [hk9]; decide))
    · refine vx_catch hown [⟨0, 10, 13, 25⟩] ⟨0, 10, 17, 13⟩ [] (by rw [htab]; rfl) (fun z hz => by obtain rfl := List.mem_singleton.mp hz; exact Or.inr ⟨by decide, "java/lang/IndexOutOfBoundsException", hts (.classLink RL 25 "java/lang/IndexOutOfBoundsException") (by decide +kernel), hE.C 1 rfl⟩) rfl (by decide) (hts (.classLink RL 13 "java/lang/IllegalArgumentException") (by decide +kernel)) (va_Nw.use rfl (hE.N 32 rfl)) h1 h2 h3 ?_
      refine W.eq (g2 := F0 m 17 ls [.ref q9]) rfl ?_
      refine lv_astore (lv' := [(4, .ref q9), (0, .ref (ad 0)), (1, .int mm), (2, .int r), (3, .ref (ad 2100))]) hx hb dL_versionAt_17 hl (by decide) rfl (fun ls hl => ?_)
      refine lv_iconst (v := 2) hx hb dL_versionAt_19 (by decide) ?_
      have hk9 : vrK S mm r = 2 := hk
      exact ke_i hx hb hr hlocks (Nat.le_of_ble_eq_true rfl) (Nat.le_of_ble_eq_true rfl) dL_versionAt_20 hW (OpP.thrown (by rw [vrN_n (by rw [hk9]; decide)]; exact hC.s17) (by rw [vrN_n (by rw [hk9]; decide)]; exact hN.s17) ho hk9 (by rw [hk9]; decide))
  · obtain ⟨e1, hk, e3, e4⟩ := hp3
    rw [e3, e4] at hW
    subst e1
    have hk9 : vrK S mm r = 0 := hk
    refine lv_i2l hx hb dL_versionAt_8 rfl ?_
    refine kk_last hx hb hE hW ho (by unfold vp_in; decide) dL_versionAt_9 (fun H8 locs w6 e7 hW => ?_)
    refine lv_goto (tgt := 21) hx hb dL_versionAt_10 (by decide) ?_
    refine lv_iconst (v := 0) hx hb dL_versionAt_21 (by decide) ?_
    exact ke_i hx hb hr hlocks (Nat.le_of_ble_eq_true rfl) (Nat.le_of_ble_eq_true rfl) dL_versionAt_22 hW (OpP.ok (by rw [vrN_0 hk9]; exact hC.s17.s16) (by rw [vrN_0 hk9]; exact hN.s17.s16) (by omega) (by omega) FrC.rf rfl e7 hk9 (by rw [show vrR S mm r = _ from if_pos hk9]; rw [hk9]; rfl))

set_option maxHeartbeats 4000000 in
set_option maxRecDepth 100000 in
/-- k_L_isMarked -/
theorem k_L_isMarked (l : Launch) (hnt : l.stackTraces = false) (D : va_G) (A : Nat → Prop) (ad : Nat → Nat) (w : kWd) (S : St) (nT nC nD nM nZ : Nat) (hC : CW D S ad w nT nC) (hN : SN S nT nC nD nM nZ) (fo : Nat → Int64) (ho : w 2100 = some (.inl (D.1 102, 1, .inr (.inl fo)))) (b k : Int32) : Met l yL_isMarked wsL_isMarked ({ frames := 8, cells := 8, slots := 60, locals := 145 }) (kPc D A [.ref (ad 0), .int b, .int k, .ref (ad 2100)] ad w) (kQi D A (OpP D ad w (soK b k) (imR S b k) (sS S 17 (soK b k)) nC nM)) 8 60 A := by
  refine va_MetW (hh := [(0, 17, 20, 25)]) (cc := cL_isMarked) (maxL := 5) (ret := (some (.int))) (by decide) rfl ?_
  intro p e s m args below meth c s₁ B hml hv
  obtain ⟨rfl, hE, hW0, hI0, hA⟩ := hv
  have hx := B.exec
  have hb := B.bytes
  have hr := B.returns
  have hts := atoms_spec (ws := wsL_isMarked) B.pre
  have hown : s.vm.findClass RL = some m.cls := findClass_of_methodNamed B.named
  have hlocks := B.notSynchronized
  have hW : kS D A s.heap ad w s.heap [] := ⟨hW0, hI0, va_S.rf, hA⟩
  have hl := lv_entry ([.ref (ad 0), .int b, .int k, .ref (ad 2100)]) (n := 5) (Nat.le_of_ble_eq_true rfl)
  rw [lg_entry_eq]
  generalize (lg_sl ([.ref (ad 0), .int b, .int k, .ref (ad 2100)]) ++ List.replicate (5 - (lg_sl ([.ref (ad 0), .int b, .int k, .ref (ad 2100)])).length) Slot.unset).toArray = ls at hl ⊢
  have hl : lv_has ls 5 [(0, .ref (ad 0)), (1, .int b), (2, .int k), (3, .ref (ad 2100))] := hl
  have htab : c.exceptionTable.toList = tableOf [(0, 17, 20, 25)] := vx_table (x := yL_isMarked) B (hts (.codeWith yL_isMarked cL_isMarked 5 (some .int) [(0, 17, 20, 25)]) (by decide +kernel))
  have hC0 : CW D (sS S 17 0) ad w nT nC := hC.s17
  have hN0 : SN (sS S 17 0) nT nC nD nM nZ := hN.s17
  refine lv_aload_n hx hb dL_isMarked_0 rfl (lv_at hl 3 rfl) ?_
  refine lv_iconst (v := 0) hx hb dL_isMarked_1 (by decide) ?_
  refine lv_aload_n hx hb dL_isMarked_2 rfl (lv_at hl 0 rfl) ?_
  refine lv_iload_n hx hb dL_isMarked_3 rfl (lv_at hl 1 rfl) ?_
  refine lv_iload_n hx hb dL_isMarked_4 rfl (lv_at hl 2 rfl) ?_
  refine kx_i (vx_runV (As := [.int b, .int k]) (rest := [.int 0, .ref (ad 2100)]) ⟨hx, hb, hml, hown, hts⟩ (k_X5_isMarked l hnt D A ad w (sS S 17 0) nT nC nD nM nZ hC0 hN0 b k) (cwV 2 hts gL_isMarked_X5_isMarked rfl rfl rfl (by decide +kernel) ⟨Nat.le_of_ble_eq_true rfl, Nat.le_of_ble_eq_true rfl⟩) (kV hE hW hC.u rfl _) rfl rfl hl.1 rfl (lv_room (Nat.le_of_ble_eq_true rfl)) dL_isMarked_5 ⟨Nat.le_of_ble_eq_true rfl, Nat.le_of_ble_eq_true rfl⟩) hW (fun E ce q9 H locs hpx hW h1 h2 h3 => ?_) (fun r4 ad1 w2 H5 locs hp3 hW => ?_)
  · obtain ⟨rfl, hk⟩ := hpx
    refine vx_catch hown [] ⟨0, 17, 20, 25⟩ [] (by rw [htab]; rfl) (fun z hz => absurd hz List.not_mem_nil) rfl (by decide) (hts (.classLink RL 25 "java/lang/IndexOutOfBoundsException") (by decide +kernel)) (va_Nw.use rfl (hE.N 34 rfl)) h1 h2 h3 ?_
    refine W.eq (g2 := F0 m 20 ls [.ref q9]) rfl ?_
    refine lv_astore (lv' := [(4, .ref q9), (0, .ref (ad 0)), (1, .int b), (2, .int k), (3, .ref (ad 2100))]) hx hb dL_isMarked_20 hl (by decide) rfl (fun ls hl => ?_)
    refine lv_iconst (v := 1) hx hb dL_isMarked_22 (by decide) ?_
    have hk9 : soK b k = 1 := hk
    exact ke_i hx hb hr hlocks (Nat.le_of_ble_eq_true rfl) (Nat.le_of_ble_eq_true rfl) dL_isMarked_23 hW (OpP.thrown hC.s17 hN.s17 ho hk9 (by rw [hk9]; decide))
  · obtain ⟨e1, hk, e3, e4⟩ := hp3
    rw [e3, e4] at hW
    subst e1
    have hk9 : soK b k = 0 := hk
    refine lv_if_eq (tgt := 15) hx hb dL_isMarked_8 (by decide) (fun c6 => ?_) (fun c6 => ?_)
    · refine lv_lconst (v := 0) hx hb dL_isMarked_15 (by decide) ?_
      refine kk_last hx hb hE hW ho (by unfold vp_in; decide) dL_isMarked_16 (fun H9 locs w7 e8 hW => ?_)
      refine lv_goto (tgt := 24) hx hb dL_isMarked_17 (by decide) ?_
      refine lv_iconst (v := 0) hx hb dL_isMarked_24 (by decide) ?_
      exact ke_i hx hb hr hlocks (Nat.le_of_ble_eq_true rfl) (Nat.le_of_ble_eq_true rfl) dL_isMarked_25 hW (OpP.ok hC.s17 hN.s17 (by omega) (by omega) FrC.rf rfl e8 hk9 (by rw [show imR S b k = _ from bI_0 (fun q => q.2 c6)]; rfl))
    · refine lv_lconst (v := 1) hx hb dL_isMarked_11 (by decide) ?_
      refine lv_goto (tgt := 16) hx hb dL_isMarked_12 (by decide) ?_
      refine kk_last hx hb hE hW ho (by unfold vp_in; decide) dL_isMarked_16 (fun H12 locs w10 e11 hW => ?_)
      refine lv_goto (tgt := 24) hx hb dL_isMarked_17 (by decide) ?_
      refine lv_iconst (v := 0) hx hb dL_isMarked_24 (by decide) ?_
      exact ke_i hx hb hr hlocks (Nat.le_of_ble_eq_true rfl) (Nat.le_of_ble_eq_true rfl) dL_isMarked_25 hW (OpP.ok hC.s17 hN.s17 (by omega) (by omega) FrC.rf rfl e11 hk9 (by rw [show imR S b k = _ from bI_1 ⟨hk9, c6⟩]; rfl))

set_option maxHeartbeats 4000000 in
set_option maxRecDepth 100000 in
/-- k_L_undoTo -/
theorem k_L_undoTo (l : Launch) (hnt : l.stackTraces = false) (D : va_G) (A : Nat → Prop) (ad : Nat → Nat) (w : kWd) (S : St) (nT nC nD nM nZ : Nat) (hC : CW D S ad w nT nC) (hN : SN S nT nC nD nM nZ) (fo : Nat → Int64) (ho : w 2100 = some (.inl (D.1 102, 1, .inr (.inl fo)))) (i k : Int32) : Met l yL_undoTo wsL_undoTo ({ frames := 8, cells := 8, slots := 60, locals := 144 }) (kPc D A [.ref (ad 0), .int i, .int k, .ref (ad 2100)] ad w) (kQi D A (OpP D ad w (utK S i k) (utR S i k) (utN S i k) nC nM)) 8 60 A := by
  refine va_MetW (hh := [(0, 10, 13, 25), (0, 10, 17, 15), (0, 10, 21, 13)]) (cc := cL_undoTo) (maxL := 5) (ret := (some (.int))) (by decide) rfl ?_
  intro p e s m args below meth c s₁ B hml hv
  obtain ⟨rfl, hE, hW0, hI0, hA⟩ := hv
  have hx := B.exec
  have hb := B.bytes
  have hr := B.returns
  have hts := atoms_spec (ws := wsL_undoTo) B.pre
  have hown : s.vm.findClass RL = some m.cls := findClass_of_methodNamed B.named
  have hlocks := B.notSynchronized
  have hW : kS D A s.heap ad w s.heap [] := ⟨hW0, hI0, va_S.rf, hA⟩
  have hl := lv_entry ([.ref (ad 0), .int i, .int k, .ref (ad 2100)]) (n := 5) (Nat.le_of_ble_eq_true rfl)
  rw [lg_entry_eq]
  generalize (lg_sl ([.ref (ad 0), .int i, .int k, .ref (ad 2100)]) ++ List.replicate (5 - (lg_sl ([.ref (ad 0), .int i, .int k, .ref (ad 2100)])).length) Slot.unset).toArray = ls at hl ⊢
  have hl : lv_has ls 5 [(0, .ref (ad 0)), (1, .int i), (2, .int k), (3, .ref (ad 2100))] := hl
  have htab : c.exceptionTable.toList = tableOf [(0, 10, 13, 25), (0, 10, 17, 15), (0, 10, 21, 13)] := vx_table (x := yL_undoTo) B (hts (.codeWith yL_undoTo cL_undoTo 5 (some .int) [(0, 10, 13, 25), (0, 10, 17, 15), (0, 10, 21, 13)]) (by decide +kernel))
  have hC0 : CW D (sS S 17 0) ad w nT nC := hC.s17
  have hN0 : SN (sS S 17 0) nT nC nD nM nZ := hN.s17
  refine lv_aload_n hx hb dL_undoTo_0 rfl (lv_at hl 3 rfl) ?_
  refine lv_iconst (v := 0) hx hb dL_undoTo_1 (by decide) ?_
  refine lv_aload_n hx hb dL_undoTo_2 rfl (lv_at hl 0 rfl) ?_
  refine lv_iload_n hx hb dL_undoTo_3 rfl (lv_at hl 1 rfl) ?_
  refine lv_iload_n hx hb dL_undoTo_4 rfl (lv_at hl 2 rfl) ?_
  refine kx_i (vx_runV (As := [.int i, .int k]) (rest := [.int 0, .ref (ad 2100)]) ⟨hx, hb, hml, hown, hts⟩ (k_X5_undoTo l hnt D A ad w (sS S 17 0) nT nC nD nM nZ hC0 hN0 i k) (cwV 2 hts gL_undoTo_X5_undoTo rfl rfl rfl (by decide +kernel) ⟨Nat.le_of_ble_eq_true rfl, Nat.le_of_ble_eq_true rfl⟩) (kV hE hW hC.u rfl _) rfl rfl hl.1 rfl (lv_room (Nat.le_of_ble_eq_true rfl)) dL_undoTo_5 ⟨Nat.le_of_ble_eq_true rfl, Nat.le_of_ble_eq_true rfl⟩) hW (fun E ce q9 H locs hpx hW h1 h2 h3 => ?_) (fun r4 ad1 w2 H5 locs hp3 hW => ?_)
  · rcases hpx with ⟨rfl, hk⟩ | ⟨rfl, hk⟩ | ⟨rfl, hk, hk2⟩
    · refine vx_catch hown [] ⟨0, 10, 13, 25⟩ [⟨0, 10, 17, 15⟩, ⟨0, 10, 21, 13⟩] (by rw [htab]; rfl) (fun z hz => absurd hz List.not_mem_nil) rfl (by decide) (hts (.classLink RL 25 "java/lang/IndexOutOfBoundsException") (by decide +kernel)) (va_Nw.use rfl (hE.N 34 rfl)) h1 h2 h3 ?_
      refine W.eq (g2 := F0 m 13 ls [.ref q9]) rfl ?_
      refine lv_astore (lv' := [(4, .ref q9), (0, .ref (ad 0)), (1, .int i), (2, .int k), (3, .ref (ad 2100))]) hx hb dL_undoTo_13 hl (by decide) rfl (fun ls hl => ?_)
      refine lv_iconst (v := 1) hx hb dL_undoTo_15 (by decide) ?_
      have hk0 : opK S i = 1 := hk
      have hne : ¬ opK S i = 0 := by rw [hk0]; decide
      have hk9 : utK S i k = 1 := (utK_n hne).trans hk0
      exact ke_i hx hb hr hlocks (Nat.le_of_ble_eq_true rfl) (Nat.le_of_ble_eq_true rfl) dL_undoTo_16 hW (OpP.thrown (by rw [utN_n (by rw [hk9]; decide)]; exact hC.s17) (by rw [utN_n (by rw [hk9]; decide)]; exact hN.s17) ho hk9 (by rw [hk9]; decide))
    · refine vx_catch hown [⟨0, 10, 13, 25⟩] ⟨0, 10, 17, 15⟩ [⟨0, 10, 21, 13⟩] (by rw [htab]; rfl) (fun z hz => by obtain rfl := List.mem_singleton.mp hz; exact Or.inr ⟨by decide, "java/lang/IndexOutOfBoundsException", hts (.classLink RL 25 "java/lang/IndexOutOfBoundsException") (by decide +kernel), hE.C 4 rfl⟩) rfl (by decide) (hts (.classLink RL 15 "java/lang/IllegalStateException") (by decide +kernel)) (va_Nw.use rfl (hE.N 33 rfl)) h1 h2 h3 ?_
      refine W.eq (g2 := F0 m 17 ls [.ref q9]) rfl ?_
      refine lv_astore (lv' := [(4, .ref q9), (0, .ref (ad 0)), (1, .int i), (2, .int k), (3, .ref (ad 2100))]) hx hb dL_undoTo_17 hl (by decide) rfl (fun ls hl => ?_)
      refine lv_iconst (v := 2) hx hb dL_undoTo_19 (by decide) ?_
      have hk0 : opK S i = 2 := hk
      have hne : ¬ opK S i = 0 := by rw [hk0]; decide
      have hk9 : utK S i k = 2 := (utK_n hne).trans hk0
      exact ke_i hx hb hr hlocks (Nat.le_of_ble_eq_true rfl) (Nat.le_of_ble_eq_true rfl) dL_undoTo_20 hW (OpP.thrown (by rw [utN_n (by rw [hk9]; decide)]; exact hC.s17) (by rw [utN_n (by rw [hk9]; decide)]; exact hN.s17) ho hk9 (by rw [hk9]; decide))
    · refine vx_catch hown [⟨0, 10, 13, 25⟩, ⟨0, 10, 17, 15⟩] ⟨0, 10, 21, 13⟩ [] (by rw [htab]; rfl) (fun z hz => (List.mem_cons.mp hz).elim (fun e9 => by subst e9; exact Or.inr ⟨by decide, "java/lang/IndexOutOfBoundsException", hts (.classLink RL 25 "java/lang/IndexOutOfBoundsException") (by decide +kernel), hE.C 1 rfl⟩) (fun hz => by obtain rfl := List.mem_singleton.mp hz; exact Or.inr ⟨by decide, "java/lang/IllegalStateException", hts (.classLink RL 15 "java/lang/IllegalStateException") (by decide +kernel), hE.C 0 rfl⟩)) rfl (by decide) (hts (.classLink RL 13 "java/lang/IllegalArgumentException") (by decide +kernel)) (va_Nw.use rfl (hE.N 32 rfl)) h1 h2 h3 ?_
      refine W.eq (g2 := F0 m 21 ls [.ref q9]) rfl ?_
      refine lv_astore (lv' := [(4, .ref q9), (0, .ref (ad 0)), (1, .int i), (2, .int k), (3, .ref (ad 2100))]) hx hb dL_undoTo_21 hl (by decide) rfl (fun ls hl => ?_)
      refine lv_iconst (v := 3) hx hb dL_undoTo_23 (by decide) ?_
      have hk0 : opK S i = 0 := hk
      rw [stV_17] at hk2
      have hk9 := utK_3 hk0 hk2
      exact ke_i hx hb hr hlocks (Nat.le_of_ble_eq_true rfl) (Nat.le_of_ble_eq_true rfl) dL_undoTo_24 hW (OpP.thrown (by rw [utN_n (by rw [hk9]; decide)]; exact hC.s17) (by rw [utN_n (by rw [hk9]; decide)]; exact hN.s17) ho hk9 (by rw [hk9]; decide))
  · obtain ⟨e1, hk, hin, e3, hC2, hF⟩ := hp3
    rw [e3] at hW
    rw [stV_17] at e1 hin hC2
    subst e1
    have hk0 : opK S i = 0 := hk
    have hk9 := utK_0 hk0 hin
    refine lv_i2l hx hb dL_undoTo_8 rfl ?_
    refine kk_last hx hb hE hW ((hF 2100 (by decide)).1.trans ho) (by unfold vp_in; decide) dL_undoTo_9 (fun H8 locs w6 e7 hW => ?_)
    refine lv_goto (tgt := 25) hx hb dL_undoTo_10 (by decide) ?_
    refine lv_iconst (v := 0) hx hb dL_undoTo_25 (by decide) ?_
    exact ke_i hx hb hr hlocks (Nat.le_of_ble_eq_true rfl) (Nat.le_of_ble_eq_true rfl) dL_undoTo_26 hW (OpP.ok (by rw [utN_0 hk9]; exact hC2) (by rw [utN_0 hk9]; exact hN0.unS) (by omega) (by omega) hF rfl e7 hk9 (by rw [show utR S i k = _ from if_pos hk9, utA_e]))

set_option maxHeartbeats 4000000 in
set_option maxRecDepth 100000 in
/-- k_L_undo -/
theorem k_L_undo (l : Launch) (hnt : l.stackTraces = false) (D : va_G) (A : Nat → Prop) (ad : Nat → Nat) (w : kWd) (S : St) (nT nC nD nM nZ : Nat) (hC : CW D S ad w nT nC) (hN : SN S nT nC nD nM nZ) (fo : Nat → Int64) (ho : w 2100 = some (.inl (D.1 102, 1, .inr (.inl fo)))) (i : Int32) : Met l yL_undo wsL_undo ({ frames := 8, cells := 8, slots := 60, locals := 144 }) (kPc D A [.ref (ad 0), .int i, .ref (ad 2100)] ad w) (kQi D A (OpP D ad w (opK S i) (udR S i) (udN S i) nC nM)) 8 60 A := by
  refine va_MetW (hh := [(0, 9, 12, 25), (0, 9, 15, 15)]) (cc := cL_undo) (maxL := 4) (ret := (some (.int))) (by decide) rfl ?_
  intro p e s m args below meth c s₁ B hml hv
  obtain ⟨rfl, hE, hW0, hI0, hA⟩ := hv
  have hx := B.exec
  have hb := B.bytes
  have hr := B.returns
  have hts := atoms_spec (ws := wsL_undo) B.pre
  have hown : s.vm.findClass RL = some m.cls := findClass_of_methodNamed B.named
  have hlocks := B.notSynchronized
  have hW : kS D A s.heap ad w s.heap [] := ⟨hW0, hI0, va_S.rf, hA⟩
  have hl := lv_entry ([.ref (ad 0), .int i, .ref (ad 2100)]) (n := 4) (Nat.le_of_ble_eq_true rfl)
  rw [lg_entry_eq]
  generalize (lg_sl ([.ref (ad 0), .int i, .ref (ad 2100)]) ++ List.replicate (4 - (lg_sl ([.ref (ad 0), .int i, .ref (ad 2100)])).length) Slot.unset).toArray = ls at hl ⊢
  have hl : lv_has ls 4 [(0, .ref (ad 0)), (1, .int i), (2, .ref (ad 2100))] := hl
  have htab : c.exceptionTable.toList = tableOf [(0, 9, 12, 25), (0, 9, 15, 15)] := vx_table (x := yL_undo) B (hts (.codeWith yL_undo cL_undo 4 (some .int) [(0, 9, 12, 25), (0, 9, 15, 15)]) (by decide +kernel))
  have hC0 : CW D (sS S 17 0) ad w nT nC := hC.s17
  have hN0 : SN (sS S 17 0) nT nC nD nM nZ := hN.s17
  refine lv_aload_n hx hb dL_undo_0 rfl (lv_at hl 2 rfl) ?_
  refine lv_iconst (v := 0) hx hb dL_undo_1 (by decide) ?_
  refine lv_aload_n hx hb dL_undo_2 rfl (lv_at hl 0 rfl) ?_
  refine lv_iload_n hx hb dL_undo_3 rfl (lv_at hl 1 rfl) ?_
  refine kx_i (vx_runV (As := [.int i]) (rest := [.int 0, .ref (ad 2100)]) ⟨hx, hb, hml, hown, hts⟩ (k_X5_undo l hnt D A ad w (sS S 17 0) nT nC nD nM nZ hC0 hN0 i) (cwV 1 hts gL_undo_X5_undo rfl rfl rfl (by decide +kernel) ⟨Nat.le_of_ble_eq_true rfl, Nat.le_of_ble_eq_true rfl⟩) (kV hE hW hC.u rfl _) rfl rfl hl.1 rfl (lv_room (Nat.le_of_ble_eq_true rfl)) dL_undo_4 ⟨Nat.le_of_ble_eq_true rfl, Nat.le_of_ble_eq_true rfl⟩) hW (fun E ce q9 H locs hpx hW h1 h2 h3 => ?_) (fun r4 ad1 w2 H5 locs hp3 hW => ?_)
  · rcases hpx with ⟨rfl, hk⟩ | ⟨rfl, hk⟩
    · refine vx_catch hown [] ⟨0, 9, 12, 25⟩ [⟨0, 9, 15, 15⟩] (by rw [htab]; rfl) (fun z hz => absurd hz List.not_mem_nil) rfl (by decide) (hts (.classLink RL 25 "java/lang/IndexOutOfBoundsException") (by decide +kernel)) (va_Nw.use rfl (hE.N 34 rfl)) h1 h2 h3 ?_
      refine W.eq (g2 := F0 m 12 ls [.ref q9]) rfl ?_
      refine lv_astore_n (lv' := [(3, .ref q9), (0, .ref (ad 0)), (1, .int i), (2, .ref (ad 2100))]) hx hb dL_undo_12 rfl hl (by decide) rfl (fun ls hl => ?_)
      refine lv_iconst (v := 1) hx hb dL_undo_13 (by decide) ?_
      have hk9 : opK S i = 1 := hk
      exact ke_i hx hb hr hlocks (Nat.le_of_ble_eq_true rfl) (Nat.le_of_ble_eq_true rfl) dL_undo_14 hW (OpP.thrown (by rw [udN_n (by rw [hk9]; decide)]; exact hC.s17) (by rw [udN_n (by rw [hk9]; decide)]; exact hN.s17) ho hk9 (by rw [hk9]; decide))
    · refine vx_catch hown [⟨0, 9, 12, 25⟩] ⟨0, 9, 15, 15⟩ [] (by rw [htab]; rfl) (fun z hz => by obtain rfl := List.mem_singleton.mp hz; exact Or.inr ⟨by decide, "java/lang/IndexOutOfBoundsException", hts (.classLink RL 25 "java/lang/IndexOutOfBoundsException") (by decide +kernel), hE.C 4 rfl⟩) rfl (by decide) (hts (.classLink RL 15 "java/lang/IllegalStateException") (by decide +kernel)) (va_Nw.use rfl (hE.N 33 rfl)) h1 h2 h3 ?_
      refine W.eq (g2 := F0 m 15 ls [.ref q9]) rfl ?_
      refine lv_astore_n (lv' := [(3, .ref q9), (0, .ref (ad 0)), (1, .int i), (2, .ref (ad 2100))]) hx hb dL_undo_15 rfl hl (by decide) rfl (fun ls hl => ?_)
      refine lv_iconst (v := 2) hx hb dL_undo_16 (by decide) ?_
      have hk9 : opK S i = 2 := hk
      exact ke_i hx hb hr hlocks (Nat.le_of_ble_eq_true rfl) (Nat.le_of_ble_eq_true rfl) dL_undo_17 hW (OpP.thrown (by rw [udN_n (by rw [hk9]; decide)]; exact hC.s17) (by rw [udN_n (by rw [hk9]; decide)]; exact hN.s17) ho hk9 (by rw [hk9]; decide))
  · obtain ⟨e1, hk, e3, hC2, hF⟩ := hp3
    rw [e3] at hW
    rw [stV_17] at e1 hC2
    subst e1
    have hk9 : opK S i = 0 := hk
    obtain ⟨u, hu, hiu⟩ := op_t hN hk9
    have hnu : nv i = u := by rw [hiu]; exact nv_nI (by have := hN.2.2.2.2.2.1; omega)
    refine lv_i2l hx hb dL_undo_7 rfl ?_
    refine kk_last hx hb hE hW ((hF 2100 (by decide)).1.trans ho) (by unfold vp_in; decide) dL_undo_8 (fun H8 locs w6 e7 hW => ?_)
    refine lv_goto (tgt := 18) hx hb dL_undo_9 (by decide) ?_
    refine lv_iconst (v := 0) hx hb dL_undo_18 (by decide) ?_
    exact ke_i hx hb hr hlocks (Nat.le_of_ble_eq_true rfl) (Nat.le_of_ble_eq_true rfl) dL_undo_19 hW (OpP.ok (by rw [udN_0 hk9]; exact hC2) (by rw [udN_0 hk9, hnu]; exact hN0.unS.ud hu) (by omega) (by omega) hF rfl e7 hk9 (by rw [show udR S i = _ from if_pos hk9, utA_e]))

set_option maxHeartbeats 4000000 in
set_option maxRecDepth 100000 in
/-- k_L_commit -/
theorem k_L_commit (l : Launch) (hnt : l.stackTraces = false) (D : va_G) (A : Nat → Prop) (ad : Nat → Nat) (w : kWd) (S : St) (nT nC nD nM nZ : Nat) (hC : CW D S ad w nT nC) (hN : SN S nT nC nD nM nZ) (fo : Nat → Int64) (ho : w 2100 = some (.inl (D.1 102, 1, .inr (.inl fo)))) (hM : nM < 512) (i : Int32) : Met l yL_commit wsL_commit ({ frames := 8, cells := 8, slots := 60, locals := 143 }) (kPc D A [.ref (ad 0), .int i, .ref (ad 2100)] ad w) (kQi D A (OpP D ad w (opK S i) (cmR S i) (cmN S i) nC nM)) 8 60 A := by
  refine va_MetW (hh := [(0, 9, 12, 25), (0, 9, 15, 15)]) (cc := cL_commit) (maxL := 4) (ret := (some (.int))) (by decide) rfl ?_
  intro p e s m args below meth c s₁ B hml hv
  obtain ⟨rfl, hE, hW0, hI0, hA⟩ := hv
  have hx := B.exec
  have hb := B.bytes
  have hr := B.returns
  have hts := atoms_spec (ws := wsL_commit) B.pre
  have hown : s.vm.findClass RL = some m.cls := findClass_of_methodNamed B.named
  have hlocks := B.notSynchronized
  have hW : kS D A s.heap ad w s.heap [] := ⟨hW0, hI0, va_S.rf, hA⟩
  have hl := lv_entry ([.ref (ad 0), .int i, .ref (ad 2100)]) (n := 4) (Nat.le_of_ble_eq_true rfl)
  rw [lg_entry_eq]
  generalize (lg_sl ([.ref (ad 0), .int i, .ref (ad 2100)]) ++ List.replicate (4 - (lg_sl ([.ref (ad 0), .int i, .ref (ad 2100)])).length) Slot.unset).toArray = ls at hl ⊢
  have hl : lv_has ls 4 [(0, .ref (ad 0)), (1, .int i), (2, .ref (ad 2100))] := hl
  have htab : c.exceptionTable.toList = tableOf [(0, 9, 12, 25), (0, 9, 15, 15)] := vx_table (x := yL_commit) B (hts (.codeWith yL_commit cL_commit 4 (some .int) [(0, 9, 12, 25), (0, 9, 15, 15)]) (by decide +kernel))
  have hC0 : CW D (sS S 17 0) ad w nT nC := hC.s17
  have hN0 : SN (sS S 17 0) nT nC nD nM nZ := hN.s17
  refine lv_aload_n hx hb dL_commit_0 rfl (lv_at hl 2 rfl) ?_
  refine lv_iconst (v := 0) hx hb dL_commit_1 (by decide) ?_
  refine lv_aload_n hx hb dL_commit_2 rfl (lv_at hl 0 rfl) ?_
  refine lv_iload_n hx hb dL_commit_3 rfl (lv_at hl 1 rfl) ?_
  refine kx_i (vx_runV (As := [.int i]) (rest := [.int 0, .ref (ad 2100)]) ⟨hx, hb, hml, hown, hts⟩ (k_X5_commit l hnt D A ad w (sS S 17 0) nT nC nD nM nZ hC0 hN0 i) (cwV 1 hts gL_commit_X5_commit rfl rfl rfl (by decide +kernel) ⟨Nat.le_of_ble_eq_true rfl, Nat.le_of_ble_eq_true rfl⟩) (kV hE hW hC.u rfl _) rfl rfl hl.1 rfl (lv_room (Nat.le_of_ble_eq_true rfl)) dL_commit_4 ⟨Nat.le_of_ble_eq_true rfl, Nat.le_of_ble_eq_true rfl⟩) hW (fun E ce q9 H locs hpx hW h1 h2 h3 => ?_) (fun r4 ad1 w2 H5 locs hp3 hW => ?_)
  · rcases hpx with ⟨rfl, hk⟩ | ⟨rfl, hk⟩
    · refine vx_catch hown [] ⟨0, 9, 12, 25⟩ [⟨0, 9, 15, 15⟩] (by rw [htab]; rfl) (fun z hz => absurd hz List.not_mem_nil) rfl (by decide) (hts (.classLink RL 25 "java/lang/IndexOutOfBoundsException") (by decide +kernel)) (va_Nw.use rfl (hE.N 34 rfl)) h1 h2 h3 ?_
      refine W.eq (g2 := F0 m 12 ls [.ref q9]) rfl ?_
      refine lv_astore_n (lv' := [(3, .ref q9), (0, .ref (ad 0)), (1, .int i), (2, .ref (ad 2100))]) hx hb dL_commit_12 rfl hl (by decide) rfl (fun ls hl => ?_)
      refine lv_iconst (v := 1) hx hb dL_commit_13 (by decide) ?_
      have hk9 : opK S i = 1 := hk
      exact ke_i hx hb hr hlocks (Nat.le_of_ble_eq_true rfl) (Nat.le_of_ble_eq_true rfl) dL_commit_14 hW (OpP.thrown (by rw [cmN_n (by rw [hk9]; decide)]; exact hC.s17) (by rw [cmN_n (by rw [hk9]; decide)]; exact hN.s17) ho hk9 (by rw [hk9]; decide))
    · refine vx_catch hown [⟨0, 9, 12, 25⟩] ⟨0, 9, 15, 15⟩ [] (by rw [htab]; rfl) (fun z hz => by obtain rfl := List.mem_singleton.mp hz; exact Or.inr ⟨by decide, "java/lang/IndexOutOfBoundsException", hts (.classLink RL 25 "java/lang/IndexOutOfBoundsException") (by decide +kernel), hE.C 4 rfl⟩) rfl (by decide) (hts (.classLink RL 15 "java/lang/IllegalStateException") (by decide +kernel)) (va_Nw.use rfl (hE.N 33 rfl)) h1 h2 h3 ?_
      refine W.eq (g2 := F0 m 15 ls [.ref q9]) rfl ?_
      refine lv_astore_n (lv' := [(3, .ref q9), (0, .ref (ad 0)), (1, .int i), (2, .ref (ad 2100))]) hx hb dL_commit_15 rfl hl (by decide) rfl (fun ls hl => ?_)
      refine lv_iconst (v := 2) hx hb dL_commit_16 (by decide) ?_
      have hk9 : opK S i = 2 := hk
      exact ke_i hx hb hr hlocks (Nat.le_of_ble_eq_true rfl) (Nat.le_of_ble_eq_true rfl) dL_commit_17 hW (OpP.thrown (by rw [cmN_n (by rw [hk9]; decide)]; exact hC.s17) (by rw [cmN_n (by rw [hk9]; decide)]; exact hN.s17) ho hk9 (by rw [hk9]; decide))
  · obtain ⟨e1, hk, e3, hC2, hF⟩ := hp3
    rw [e3] at hW
    subst e1
    have hk9 : opK S i = 0 := hk
    obtain ⟨u, hu, hiu⟩ := op_t hN hk9
    have hnu : nv i = u := by rw [hiu]; exact nv_nI (by have := hN.2.2.2.2.2.1; omega)
    refine lv_i2l hx hb dL_commit_7 rfl ?_
    refine kk_last hx hb hE hW ((hF 2100 (by decide)).1.trans ho) (by unfold vp_in; decide) dL_commit_8 (fun H8 locs w6 e7 hW => ?_)
    refine lv_goto (tgt := 18) hx hb dL_commit_9 (by decide) ?_
    refine lv_iconst (v := 0) hx hb dL_commit_18 (by decide) ?_
    exact ke_i hx hb hr hlocks (Nat.le_of_ble_eq_true rfl) (Nat.le_of_ble_eq_true rfl) dL_commit_19 hW (OpP.ok (by rw [cmN_0 hk9]; exact hC2) (by rw [cmN_0 hk9, hnu]; exact hN0.cm hu hM) (by omega) (by omega) hF rfl e7 hk9 (by rw [show cmR S i = _ from if_pos hk9]; rfl))

