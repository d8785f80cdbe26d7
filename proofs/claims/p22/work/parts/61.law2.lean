/-! the law: what holds behind each step is looked at -/
set_option maxHeartbeats 4000000 in
set_option maxRecDepth 100000 in
/-- k_L_isCellar -/
theorem k_L_isCellar (l : Launch) (hnt : l.stackTraces = false) (D : va_G) (A : Nat → Prop) (ad : Nat → Nat) (w : kWd) (S : St) (nT nC nD nM nZ : Nat) (hC : CW D S ad w nT nC) (hN : SN S nT nC nD nM nZ) (hG : GI S nT nC nM) (aF : Nat → Int32) (hA1 : w 2101 = some (.inl (D.1 100, 60, .inl aF))) (hAF : AF S nT aF) (cF : Nat → Int32) (hA2 : w 2102 = some (.inl (D.1 100, 6, .inl cF))) (hCF : CF S cF) (eF : Nat → Int32) (hA3 : w 2103 = some (.inl (D.1 100, 61, .inl eF))) (r0 : Nat) (hr0 : r0 < 12) (hEF : EF S nM r0 eF)  : Met l yL_isCellar wsL_isCellar ({ frames := 8, cells := 920, slots := 6900, locals := 146 }) (kPc D A [.ref (ad 0), .ref (ad 2101), .ref (ad 2102), .ref (ad 2103), .int (nI r0)] ad w) (kQi D A (fun v ad' w' => v = 1 ∧ ad' = ad ∧ w' = w)) 920 6900 A := by
  refine Met.ofW (cc := cL_isCellar) (maxL := 9) (ret := (some (.boolean))) (by decide) rfl ?_
  intro p e s m args below meth c s₁ B hml hv
  obtain ⟨rfl, hE, hW0, hI0, hA⟩ := hv
  have hx := B.exec
  have hb := B.bytes
  have hr := B.returns
  have hts := atoms_spec (ws := wsL_isCellar) B.pre
  have hown : s.vm.findClass RL = some m.cls := findClass_of_methodNamed B.named
  have hlocks := B.notSynchronized
  have hW : kS D A s.heap ad w s.heap [] := ⟨hW0, hI0, va_S.rf, hA⟩
  have hl := lv_entry ([.ref (ad 0), .ref (ad 2101), .ref (ad 2102), .ref (ad 2103), .int (nI r0)]) (n := 9) (Nat.le_of_ble_eq_true rfl)
  rw [lg_entry_eq]
  generalize (lg_sl ([.ref (ad 0), .ref (ad 2101), .ref (ad 2102), .ref (ad 2103), .int (nI r0)]) ++ List.replicate (9 - (lg_sl ([.ref (ad 0), .ref (ad 2101), .ref (ad 2102), .ref (ad 2103), .int (nI r0)])).length) Slot.unset).toArray = ls at hl ⊢
  have hl : lv_has ls 9 [(0, .ref (ad 0)), (1, .ref (ad 2101)), (2, .ref (ad 2102)), (3, .ref (ad 2103)), (4, .int (nI r0))] := hl
  have h60 := hN.2.2.2.2.2.1
  have hM60 : nM ≤ 60 := Nat.le_trans hG.le h60
  have h30 := hN.2.2.2.2.2.2.2.2.2.2.1
  have L3 : ∀ (d i : Nat) (H : Heap) (locs : List Loc), i + d = nM + 1 → kS D A s.heap ad w H locs → ∀ ls, lv_has ls 9 [(6, .int (nI i)), (5, .int 1), (0, .ref (ad 0)), (1, .ref (ad 2101)), (2, .ref (ad 2102)), (3, .ref (ad 2103)), (4, .int (nI r0))] → W p l e ({ frames := 8, cells := 920, slots := 6900, locals := 146 }) s m ([.ref (ad 0), .ref (ad 2101), .ref (ad 2102), .ref (ad 2103), .int (nI r0)] : List Value).toArray below meth c H locs (432 + 8 * i) (3240 + 60 * i) (MQ below (kQi D A (fun v ad' w' => v = 1 ∧ ad' = ad ∧ w' = w)) ([.ref (ad 0), .ref (ad 2101), .ref (ad 2102), .ref (ad 2103), .int (nI r0)] : List Value).toArray s 920 6900 A) (F0 m 288 ls []) := by
    intro d
    induction d with
    | zero =>
      intro i H locs hi hW ls hl
      obtain rfl : i = nM + 1 := by omega
      refine lv_iload hx hb dL_isCellar_288 (lv_at hl 0 rfl) ?_
      refine lv_aload_n hx hb dL_isCellar_290 rfl (lv_at hl 4 rfl) ?_
      refine lv_iconst (v := 0) hx hb dL_isCellar_291 (by decide) ?_
      refine kk_iald hx hb hE hW hA2 (by unfold vp_in; decide) dL_isCellar_292 ?_
      rw [show cF (nv 0) = nI nM from hCF.1.trans hN.2.2.2.1]
      refine lv_icmp_gt (tgt := 329) hx hb dL_isCellar_293 (by decide) (fun _ => ?_) (fun c9 => absurd (nI_lt (by omega) (by omega)) c9)
      refine lv_iload hx hb dL_isCellar_329 (lv_at hl 1 rfl) ?_
      exact ke_z hx hb hr hlocks (show 432 + 8 * (nM + 1) ≤ 920 by omega) (show 3240 + 60 * (nM + 1) ≤ 6900 by omega) dL_isCellar_331 (by first | exact Or.inl rfl | exact Or.inr rfl | assumption) hW (⟨rfl, rfl, rfl⟩)
    | succ d ih =>
      intro i H locs hi hW ls hl
      refine lv_iload hx hb dL_isCellar_288 (lv_at hl 0 rfl) ?_
      refine lv_aload_n hx hb dL_isCellar_290 rfl (lv_at hl 4 rfl) ?_
      refine lv_iconst (v := 0) hx hb dL_isCellar_291 (by decide) ?_
      refine kk_iald hx hb hE hW hA2 (by unfold vp_in; decide) dL_isCellar_292 ?_
      rw [show cF (nv 0) = nI nM from hCF.1.trans hN.2.2.2.1]
      refine lv_icmp_gt (tgt := 329) hx hb dL_isCellar_293 (by decide) (fun c9 => absurd c9 (nI_nlt (by omega) (by omega))) (fun _ => ?_)
      refine lv_iload hx hb dL_isCellar_296 (lv_at hl 1 rfl) ?_
      refine lv_if_eq (tgt := 329) hx hb dL_isCellar_298 (by decide) (fun c9 => absurd c9 (by decide)) (fun _ => ?_)
      refine lv_aload_n hx hb dL_isCellar_301 rfl (lv_at hl 2 rfl) ?_
      refine lv_iload hx hb dL_isCellar_302 (lv_at hl 0 rfl) ?_
      refine lv_iload hx hb dL_isCellar_304 (lv_at hl 6 rfl) ?_
      refine kx_i (vx_runV (As := [.int (nI i), .int (nI r0)]) (rest := []) ⟨hx, hb, hml, hown, hts⟩ (k_X5_versionAt l hnt D A ad w S nT nC nD nM nZ hC hN (nI i) (nI r0)) (cwV 2 hts gL_isCellar_X5_versionAt rfl rfl rfl (by decide +kernel) ⟨Nat.le_of_ble_eq_true rfl, Nat.le_of_ble_eq_true rfl⟩) (kV hE hW hC.u rfl _) rfl rfl hl.1 rfl (lv_room (Nat.le_of_ble_eq_true rfl)) dL_isCellar_306 ⟨show 432 + 8 * i + 8 ≤ 920 by omega, show 3240 + 60 * i + 60 ≤ 6900 by omega⟩) hW (fun E ce q9 H locs hpx _ _ _ _ => (nf_vr hN (a := i) (j := r0) (by omega) hr0 hpx).elim) (fun r4 ad1 w2 H5 locs hp3 hW => ?_)
      obtain ⟨e6, -, e7, e8⟩ := hp3
      rw [e7, e8] at hW
      subst e6
      rw [show (vaV S (nI i) (nI r0) (-1)).1 = verV S (nI i) (nI r0) from vaV_ver hN]
      refine lv_aload_n hx hb dL_isCellar_309 rfl (lv_at hl 5 rfl) ?_
      refine lv_iload hx hb dL_isCellar_310 (lv_at hl 0 rfl) ?_
      refine kk_iald hx hb hE hW hA3 (vp_in_nI (show i < 61 by omega) (by decide)) dL_isCellar_312 ?_
      rw [show eF (nv (nI i)) = verV S (nI i) (nI r0) from by rw [show nv (nI i) = i from nI_clamp (by omega)]; exact hEF i (by omega)]
      refine lv_icmp_ne (tgt := 320) hx hb dL_isCellar_313 (by decide) (fun c9 => absurd (rfl) c9) (fun _ => ?_)
      refine lv_iconst (v := 1) hx hb dL_isCellar_316 (by decide) ?_
      refine lv_goto (tgt := 321) hx hb dL_isCellar_317 (by decide) ?_
      refine lv_istore (lv' := [(5, .int 1), (6, .int (nI i)), (0, .ref (ad 0)), (1, .ref (ad 2101)), (2, .ref (ad 2102)), (3, .ref (ad 2103)), (4, .int (nI r0))]) hx hb dL_isCellar_321 hl (by decide) rfl (fun ls hl => ?_)
      refine lv_iinc (v := nI (i + 1)) (lv' := [(6, .int (nI (i + 1))), (5, .int 1), (0, .ref (ad 0)), (1, .ref (ad 2101)), (2, .ref (ad 2102)), (3, .ref (ad 2103)), (4, .int (nI r0))]) hx hb dL_isCellar_323 hl (k := 1) rfl (nI_1 i) (by decide) rfl (fun ls hl => ?_)
      refine lv_goto (tgt := 288) hx hb dL_isCellar_326 (by decide) ?_
      refine W.widen (k := 432 + 8 * (i + 1)) (n := 3240 + 60 * (i + 1)) (by omega) (by omega) ?_
      exact ih (i + 1) _ _ (by omega) hW ls (lv_sub hl [0, 1, 2, 3, 4, 5, 6] rfl)
  have L2 : ∀ (d i : Nat) (H : Heap) (locs : List Loc), i + d = 6 → kS D A s.heap ad w H locs → ∀ ls, lv_has ls 9 [(6, .int (nI i)), (5, .int 1), (0, .ref (ad 0)), (1, .ref (ad 2101)), (2, .ref (ad 2102)), (3, .ref (ad 2103)), (4, .int (nI r0))] → W p l e ({ frames := 8, cells := 920, slots := 6900, locals := 146 }) s m ([.ref (ad 0), .ref (ad 2101), .ref (ad 2102), .ref (ad 2103), .int (nI r0)] : List Value).toArray below meth c H locs (288 + 24 * i) (2160 + 180 * i) (MQ below (kQi D A (fun v ad' w' => v = 1 ∧ ad' = ad ∧ w' = w)) ([.ref (ad 0), .ref (ad 2101), .ref (ad 2102), .ref (ad 2103), .int (nI r0)] : List Value).toArray s 920 6900 A) (F0 m 174 ls []) := by
    intro d
    induction d with
    | zero =>
      intro i H locs hi hW ls hl
      obtain rfl : i = 6 := by omega
      refine lv_iload hx hb dL_isCellar_174 (lv_at hl 0 rfl) ?_
      refine lv_bipush (v := 6) hx hb dL_isCellar_176 (by decide) ?_
      refine lv_icmp_ge (tgt := 285) hx hb dL_isCellar_178 (by decide) (fun _ => ?_) (fun c9 => absurd (by decide) c9)
      refine lv_iconst (v := 0) hx hb dL_isCellar_285 (by decide) ?_
      refine W.eq (g2 := F0 m 286 ls [.int (nI 0)]) rfl ?_
      refine lv_istore (lv' := [(6, .int (nI 0)), (5, .int 1), (0, .ref (ad 0)), (1, .ref (ad 2101)), (2, .ref (ad 2102)), (3, .ref (ad 2103)), (4, .int (nI r0))]) hx hb dL_isCellar_286 hl (by decide) rfl (fun ls hl => ?_)
      exact W_cs (c2 := 432 + 8 * 0) (s2 := 3240 + 60 * 0) (by omega) (by omega) (L3 (nM + 1) 0 _ _ (by omega) hW ls (lv_sub hl [0, 1, 2, 3, 4, 5, 6] rfl))
    | succ d ih =>
      intro i H locs hi hW ls hl
      refine lv_iload hx hb dL_isCellar_174 (lv_at hl 0 rfl) ?_
      refine lv_bipush (v := 6) hx hb dL_isCellar_176 (by decide) ?_
      refine lv_icmp_ge (tgt := 285) hx hb dL_isCellar_178 (by decide) (fun c9 => absurd c9 (nI_ge (a := i) (b := 6) (by omega) (by decide))) (fun _ => ?_)
      refine lv_iload hx hb dL_isCellar_181 (lv_at hl 1 rfl) ?_
      refine lv_if_eq (tgt := 285) hx hb dL_isCellar_183 (by decide) (fun c9 => absurd c9 (by decide)) (fun _ => ?_)
      refine lv_aload_n hx hb dL_isCellar_186 rfl (lv_at hl 2 rfl) ?_
      refine lv_iload hx hb dL_isCellar_187 (lv_at hl 0 rfl) ?_
      refine lv_iconst (v := 2) hx hb dL_isCellar_189 (by decide) ?_
      refine lv_idiv hx hb dL_isCellar_190 (by decide) ?_
      rw [show nI i / 2 = nI (i / 2) from pk_div (a := i) (d := 2) (by omega) (by omega) (by omega)]
      refine lv_iload hx hb dL_isCellar_191 (lv_at hl 0 rfl) ?_
      refine lv_iconst (v := 2) hx hb dL_isCellar_193 (by decide) ?_
      refine lv_irem hx hb dL_isCellar_194 (by decide) ?_
      rw [show nI i - nI i / 2 * 2 = nI (i % 2) from pk_rem (a := i) (d := 2) (by omega) (by omega) (by omega)]
      refine kx_i (vx_runV (As := [.int (nI (i / 2)), .int (nI (i % 2))]) (rest := []) ⟨hx, hb, hml, hown, hts⟩ (k_X5_slotOf l hnt D A ad w S nT nC nD nM nZ hC hN (nI (i / 2)) (nI (i % 2))) (cwV 2 hts gL_isCellar_X5_slotOf rfl rfl rfl (by decide +kernel) ⟨Nat.le_of_ble_eq_true rfl, Nat.le_of_ble_eq_true rfl⟩) (kV hE hW hC.u rfl _) rfl rfl hl.1 rfl (lv_room (Nat.le_of_ble_eq_true rfl)) dL_isCellar_195 ⟨show 288 + 24 * i + 8 ≤ 920 by omega, show 2160 + 180 * i + 60 ≤ 6900 by omega⟩) hW (fun E ce q9 H locs hpx _ _ _ _ => (nf_so (b := i / 2) (k := i % 2) (by omega) (by omega) hpx).elim) (fun r12 ad9 w10 H13 locs hp11 hW => ?_)
      obtain ⟨e14, -, e15, e16⟩ := hp11
      rw [e15, e16] at hW
      subst e14
      rw [show S 8 (nv (2 * nI (i / 2) + nI (i % 2))) = S 8 i from by rw [show nv (2 * nI (i / 2) + nI (i % 2)) = i from (nv_so (by omega) (by omega)).trans (by omega)]]
      refine lv_istore (lv' := [(7, .int (S 8 i)), (6, .int (nI i)), (5, .int 1), (0, .ref (ad 0)), (1, .ref (ad 2101)), (2, .ref (ad 2102)), (3, .ref (ad 2103)), (4, .int (nI r0))]) hx hb dL_isCellar_198 hl (by decide) rfl (fun ls hl => ?_)
      refine lv_aload_n hx hb dL_isCellar_200 rfl (lv_at hl 3 rfl) ?_
      refine lv_iload hx hb dL_isCellar_201 (lv_at hl 1 rfl) ?_
      refine lv_iconst (v := 2) hx hb dL_isCellar_203 (by decide) ?_
      refine lv_idiv hx hb dL_isCellar_204 (by decide) ?_
      rw [show nI i / 2 = nI (i / 2) from pk_div (a := i) (d := 2) (by omega) (by omega) (by omega)]
      refine lv_iload hx hb dL_isCellar_205 (lv_at hl 1 rfl) ?_
      refine lv_iconst (v := 2) hx hb dL_isCellar_207 (by decide) ?_
      refine lv_irem hx hb dL_isCellar_208 (by decide) ?_
      rw [show nI i - nI i / 2 * 2 = nI (i % 2) from pk_rem (a := i) (d := 2) (by omega) (by omega) (by omega)]
      refine kx_i (vx_runV (As := [.int (nI (i / 2)), .int (nI (i % 2))]) (rest := []) ⟨hx, hb, hml, hown, hts⟩ (k_X5_isMarked l hnt D A ad w S nT nC nD nM nZ hC hN (nI (i / 2)) (nI (i % 2))) (cwV 2 hts gL_isCellar_X5_isMarked rfl rfl rfl (by decide +kernel) ⟨Nat.le_of_ble_eq_true rfl, Nat.le_of_ble_eq_true rfl⟩) (kV hE hW hC.u rfl _) rfl rfl hl.1 rfl (lv_room (Nat.le_of_ble_eq_true rfl)) dL_isCellar_209 ⟨show 288 + 24 * i + 8 + 8 ≤ 920 by omega, show 2160 + 180 * i + 60 + 60 ≤ 6900 by omega⟩) hW (fun E ce q9 H locs hpx _ _ _ _ => (nf_so (b := i / 2) (k := i % 2) (by omega) (by omega) hpx).elim) (fun r20 ad17 w18 H21 locs hp19 hW => ?_)
      obtain ⟨e22, -, e23, e24⟩ := hp19
      rw [e23, e24] at hW
      subst e22
      rw [show S 9 (nv (2 * nI (i / 2) + nI (i % 2))) = S 9 i from by rw [show nv (2 * nI (i / 2) + nI (i % 2)) = i from (nv_so (by omega) (by omega)).trans (by omega)]]
      refine lv_istore (lv' := [(8, .int (S 9 i)), (7, .int (S 8 i)), (6, .int (nI i)), (5, .int 1), (0, .ref (ad 0)), (1, .ref (ad 2101)), (2, .ref (ad 2102)), (3, .ref (ad 2103)), (4, .int (nI r0))]) hx hb dL_isCellar_212 hl (by decide) rfl (fun ls hl => ?_)
      rcases hN.sl (i := i) (by omega) with h8 | ⟨t, ht, h8⟩
      · rw [h8] at hl
        refine lv_iload hx hb dL_isCellar_214 (lv_at hl 1 rfl) ?_
        refine lv_iconst (v := (-1)) hx hb dL_isCellar_216 (by decide) ?_
        refine lv_icmp_lt (tgt := 276) hx hb dL_isCellar_217 (by decide) (fun c9 => absurd c9 (by decide)) (fun _ => ?_)
        refine lv_iload hx hb dL_isCellar_220 (lv_at hl 1 rfl) ?_
        refine lv_aload_n hx hb dL_isCellar_222 rfl (lv_at hl 6 rfl) ?_
        refine lv_iconst (v := 1) hx hb dL_isCellar_223 (by decide) ?_
        refine kk_iald hx hb hE hW hA2 (by unfold vp_in; decide) dL_isCellar_224 ?_
        rw [show cF (nv 1) = nI nT from hCF.2.1.trans hN.1]
        refine lv_icmp_ge (tgt := 276) hx hb dL_isCellar_225 (by decide) (fun c9 => absurd c9 (m1_lt (by omega))) (fun _ => ?_)
        refine lv_iload hx hb dL_isCellar_228 (lv_at hl 0 rfl) ?_
        refine lv_if_eq (tgt := 247) hx hb dL_isCellar_230 (by decide) (fun c25 => ?_) (fun c25 => ?_)
        · refine lv_iload hx hb dL_isCellar_247 (lv_at hl 1 rfl) ?_
          refine lv_iconst (v := (-1)) hx hb dL_isCellar_249 (by decide) ?_
          refine lv_icmp_eq (tgt := 272) hx hb dL_isCellar_250 (by decide) (fun _ => ?_) (fun c9 => absurd (rfl) c9)
          refine lv_iconst (v := 1) hx hb dL_isCellar_272 (by decide) ?_
          refine lv_goto (tgt := 277) hx hb dL_isCellar_273 (by decide) ?_
          refine lv_istore (lv' := [(5, .int 1), (8, .int (S 9 i)), (7, .int (-1)), (6, .int (nI i)), (0, .ref (ad 0)), (1, .ref (ad 2101)), (2, .ref (ad 2102)), (3, .ref (ad 2103)), (4, .int (nI r0))]) hx hb dL_isCellar_277 hl (by decide) rfl (fun ls hl => ?_)
          refine lv_iinc (v := nI (i + 1)) (lv' := [(6, .int (nI (i + 1))), (5, .int 1), (8, .int (S 9 i)), (7, .int (-1)), (0, .ref (ad 0)), (1, .ref (ad 2101)), (2, .ref (ad 2102)), (3, .ref (ad 2103)), (4, .int (nI r0))]) hx hb dL_isCellar_279 hl (k := 3) rfl (nI_1 i) (by decide) rfl (fun ls hl => ?_)
          refine lv_goto (tgt := 174) hx hb dL_isCellar_282 (by decide) ?_
          refine W.widen (k := 288 + 24 * (i + 1)) (n := 2160 + 180 * (i + 1)) (by omega) (by omega) ?_
          exact ih (i + 1) _ _ (by omega) hW ls (lv_sub hl [0, 1, 4, 5, 6, 7, 8] rfl)
        · exact absurd h8 (en_1 hN hG (by omega) c25).1
      · have h8l := hl
        rw [h8] at hl
        refine lv_iload hx hb dL_isCellar_214 (lv_at hl 1 rfl) ?_
        refine lv_iconst (v := (-1)) hx hb dL_isCellar_216 (by decide) ?_
        refine lv_icmp_lt (tgt := 276) hx hb dL_isCellar_217 (by decide) (fun c9 => absurd c9 (t_m1 (by omega))) (fun _ => ?_)
        refine lv_iload hx hb dL_isCellar_220 (lv_at hl 1 rfl) ?_
        refine lv_aload_n hx hb dL_isCellar_222 rfl (lv_at hl 6 rfl) ?_
        refine lv_iconst (v := 1) hx hb dL_isCellar_223 (by decide) ?_
        refine kk_iald hx hb hE hW hA2 (by unfold vp_in; decide) dL_isCellar_224 ?_
        rw [show cF (nv 1) = nI nT from hCF.2.1.trans hN.1]
        refine lv_icmp_ge (tgt := 276) hx hb dL_isCellar_225 (by decide) (fun c9 => absurd c9 (nI_ge ht (by omega))) (fun _ => ?_)
        refine lv_iload hx hb dL_isCellar_228 (lv_at hl 0 rfl) ?_
        refine lv_if_eq (tgt := 247) hx hb dL_isCellar_230 (by decide) (fun c26 => ?_) (fun c26 => ?_)
        · refine lv_iload hx hb dL_isCellar_247 (lv_at hl 1 rfl) ?_
          refine lv_iconst (v := (-1)) hx hb dL_isCellar_249 (by decide) ?_
          refine lv_icmp_eq (tgt := 272) hx hb dL_isCellar_250 (by decide) (fun c9 => absurd c9 (nI_nm1 (by omega))) (fun _ => ?_)
          refine lv_iload hx hb dL_isCellar_253 (lv_at hl 1 rfl) ?_
          refine lv_aload_n hx hb dL_isCellar_255 rfl (lv_at hl 4 rfl) ?_
          refine lv_iload hx hb dL_isCellar_256 (lv_at hl 2 rfl) ?_
          refine lv_iconst (v := 2) hx hb dL_isCellar_258 (by decide) ?_
          refine lv_idiv hx hb dL_isCellar_259 (by decide) ?_
          rw [show nI i / 2 = nI (i / 2) from pk_div (a := i) (d := 2) (by omega) (by omega) (by omega)]
          refine lv_iconst (v := 1) hx hb dL_isCellar_260 (by decide) ?_
          refine lv_iload hx hb dL_isCellar_261 (lv_at hl 2 rfl) ?_
          refine lv_iconst (v := 2) hx hb dL_isCellar_263 (by decide) ?_
          refine lv_irem hx hb dL_isCellar_264 (by decide) ?_
          rw [show nI i - nI i / 2 * 2 = nI (i % 2) from pk_rem (a := i) (d := 2) (by omega) (by omega) (by omega)]
          refine lv_isub hx hb dL_isCellar_265 ?_
          rw [show 1 - nI (i % 2) = nI (1 - i % 2) from pk_sub (a := 1) (by omega)]
          refine kx_i (vx_runV (As := [.int (nI (i / 2)), .int (nI (1 - i % 2))]) (rest := [.int (nI t)]) ⟨hx, hb, hml, hown, hts⟩ (k_X5_slotOf l hnt D A ad w S nT nC nD nM nZ hC hN (nI (i / 2)) (nI (1 - i % 2))) (cwV 2 hts gL_isCellar_X5_slotOf rfl rfl rfl (by decide +kernel) ⟨Nat.le_of_ble_eq_true rfl, Nat.le_of_ble_eq_true rfl⟩) (kV hE hW hC.u rfl _) rfl rfl hl.1 rfl (lv_room (Nat.le_of_ble_eq_true rfl)) dL_isCellar_266 ⟨show 288 + 24 * i + 8 + 8 + 8 ≤ 920 by omega, show 2160 + 180 * i + 60 + 60 + 60 ≤ 6900 by omega⟩) hW (fun E ce q9 H locs hpx _ _ _ _ => (nf_so (b := i / 2) (k := 1 - i % 2) (by omega) (by omega) hpx).elim) (fun r30 ad27 w28 H31 locs hp29 hW => ?_)
          obtain ⟨e32, -, e33, e34⟩ := hp29
          rw [e33, e34] at hW
          subst e32
          rw [show S 8 (nv (2 * nI (i / 2) + nI (1 - i % 2))) = S 8 (2 * (i / 2) + (1 - i % 2)) from by rw [show nv (2 * nI (i / 2) + nI (1 - i % 2)) = 2 * (i / 2) + (1 - i % 2) from nv_so (by omega) (by omega)]]
          refine lv_icmp_eq (tgt := 276) hx hb dL_isCellar_269 (by decide) (fun c9 => absurd c9 (sl_ne hG (by omega) (by omega) h8)) (fun _ => ?_)
          refine lv_iconst (v := 1) hx hb dL_isCellar_272 (by decide) ?_
          refine lv_goto (tgt := 277) hx hb dL_isCellar_273 (by decide) ?_
          refine lv_istore (lv' := [(5, .int 1), (8, .int (S 9 i)), (7, .int (nI t)), (6, .int (nI i)), (0, .ref (ad 0)), (1, .ref (ad 2101)), (2, .ref (ad 2102)), (3, .ref (ad 2103)), (4, .int (nI r0))]) hx hb dL_isCellar_277 hl (by decide) rfl (fun ls hl => ?_)
          refine lv_iinc (v := nI (i + 1)) (lv' := [(6, .int (nI (i + 1))), (5, .int 1), (8, .int (S 9 i)), (7, .int (nI t)), (0, .ref (ad 0)), (1, .ref (ad 2101)), (2, .ref (ad 2102)), (3, .ref (ad 2103)), (4, .int (nI r0))]) hx hb dL_isCellar_279 hl (k := 3) rfl (nI_1 i) (by decide) rfl (fun ls hl => ?_)
          refine lv_goto (tgt := 174) hx hb dL_isCellar_282 (by decide) ?_
          refine W.widen (k := 288 + 24 * (i + 1)) (n := 2160 + 180 * (i + 1)) (by omega) (by omega) ?_
          exact ih (i + 1) _ _ (by omega) hW ls (lv_sub hl [0, 1, 4, 5, 6, 7, 8] rfl)
        · have hna := (en_1 hN hG (i := i) (by omega) c26).2
          rw [h8, actP_t (show t < 60 by omega)] at hna
          refine lv_iload hx hb dL_isCellar_233 (lv_at hl 1 rfl) ?_
          refine lv_if_lt (tgt := 276) hx hb dL_isCellar_235 (by decide) (fun c9 => absurd c9 (nI_pos (by omega))) (fun _ => ?_)
          refine lv_aload_n hx hb dL_isCellar_238 rfl (lv_at hl 5 rfl) ?_
          refine lv_iload hx hb dL_isCellar_239 (lv_at hl 1 rfl) ?_
          refine kk_i (va_runS (As := [.ref (ad 2101), .int (nI t)]) (rest := []) ⟨hx, hb, hml, hown, hts⟩ (k_L_isActive l hnt D A ad w S nT nC nD nM nZ hN aF hA1 hAF ((nI t)) (Or.inr ⟨t, ht, rfl⟩)) (va_cwS 2 hts gL_isCellar_L_isActive rfl rfl rfl (by decide +kernel) ⟨Nat.le_of_ble_eq_true rfl, Nat.le_of_ble_eq_true rfl⟩) (kSt hE hW _) rfl rfl hl.1 rfl (lv_room (Nat.le_of_ble_eq_true rfl)) dL_isCellar_241 ⟨show 288 + 24 * i + 8 + 8 + 0 ≤ 920 by omega, show 2160 + 180 * i + 60 + 60 + 0 ≤ 6900 by omega⟩) hW (fun r38 ad35 w36 H39 locs hp37 hW => ?_)
          obtain ⟨e40, e41, e42⟩ := hp37
          rw [e41, e42] at hW
          subst e40
          rw [show isA S (nI t) = 0 from by rw [isA_t (show t < 60 by omega)]; exact bI_0 hna]
          refine lv_if_ne (tgt := 276) hx hb dL_isCellar_244 (by decide) (fun c9 => absurd (rfl) c9) (fun _ => ?_)
          refine lv_iload hx hb dL_isCellar_247 (lv_at hl 1 rfl) ?_
          refine lv_iconst (v := (-1)) hx hb dL_isCellar_249 (by decide) ?_
          refine lv_icmp_eq (tgt := 272) hx hb dL_isCellar_250 (by decide) (fun c9 => absurd c9 (nI_nm1 (by omega))) (fun _ => ?_)
          refine lv_iload hx hb dL_isCellar_253 (lv_at hl 1 rfl) ?_
          refine lv_aload_n hx hb dL_isCellar_255 rfl (lv_at hl 4 rfl) ?_
          refine lv_iload hx hb dL_isCellar_256 (lv_at hl 2 rfl) ?_
          refine lv_iconst (v := 2) hx hb dL_isCellar_258 (by decide) ?_
          refine lv_idiv hx hb dL_isCellar_259 (by decide) ?_
          rw [show nI i / 2 = nI (i / 2) from pk_div (a := i) (d := 2) (by omega) (by omega) (by omega)]
          refine lv_iconst (v := 1) hx hb dL_isCellar_260 (by decide) ?_
          refine lv_iload hx hb dL_isCellar_261 (lv_at hl 2 rfl) ?_
          refine lv_iconst (v := 2) hx hb dL_isCellar_263 (by decide) ?_
          refine lv_irem hx hb dL_isCellar_264 (by decide) ?_
          rw [show nI i - nI i / 2 * 2 = nI (i % 2) from pk_rem (a := i) (d := 2) (by omega) (by omega) (by omega)]
          refine lv_isub hx hb dL_isCellar_265 ?_
          rw [show 1 - nI (i % 2) = nI (1 - i % 2) from pk_sub (a := 1) (by omega)]
          refine kx_i (vx_runV (As := [.int (nI (i / 2)), .int (nI (1 - i % 2))]) (rest := [.int (nI t)]) ⟨hx, hb, hml, hown, hts⟩ (k_X5_slotOf l hnt D A ad w S nT nC nD nM nZ hC hN (nI (i / 2)) (nI (1 - i % 2))) (cwV 2 hts gL_isCellar_X5_slotOf rfl rfl rfl (by decide +kernel) ⟨Nat.le_of_ble_eq_true rfl, Nat.le_of_ble_eq_true rfl⟩) (kV hE hW hC.u rfl _) rfl rfl hl.1 rfl (lv_room (Nat.le_of_ble_eq_true rfl)) dL_isCellar_266 ⟨show 288 + 24 * i + 8 + 8 + 0 + 8 ≤ 920 by omega, show 2160 + 180 * i + 60 + 60 + 0 + 60 ≤ 6900 by omega⟩) hW (fun E ce q9 H locs hpx _ _ _ _ => (nf_so (b := i / 2) (k := 1 - i % 2) (by omega) (by omega) hpx).elim) (fun r46 ad43 w44 H47 locs hp45 hW => ?_)
          obtain ⟨e48, -, e49, e50⟩ := hp45
          rw [e49, e50] at hW
          subst e48
          rw [show S 8 (nv (2 * nI (i / 2) + nI (1 - i % 2))) = S 8 (2 * (i / 2) + (1 - i % 2)) from by rw [show nv (2 * nI (i / 2) + nI (1 - i % 2)) = 2 * (i / 2) + (1 - i % 2) from nv_so (by omega) (by omega)]]
          refine lv_icmp_eq (tgt := 276) hx hb dL_isCellar_269 (by decide) (fun c9 => absurd c9 (sl_ne hG (by omega) (by omega) h8)) (fun _ => ?_)
          refine lv_iconst (v := 1) hx hb dL_isCellar_272 (by decide) ?_
          refine lv_goto (tgt := 277) hx hb dL_isCellar_273 (by decide) ?_
          refine lv_istore (lv' := [(5, .int 1), (8, .int (S 9 i)), (7, .int (nI t)), (6, .int (nI i)), (0, .ref (ad 0)), (1, .ref (ad 2101)), (2, .ref (ad 2102)), (3, .ref (ad 2103)), (4, .int (nI r0))]) hx hb dL_isCellar_277 hl (by decide) rfl (fun ls hl => ?_)
          refine lv_iinc (v := nI (i + 1)) (lv' := [(6, .int (nI (i + 1))), (5, .int 1), (8, .int (S 9 i)), (7, .int (nI t)), (0, .ref (ad 0)), (1, .ref (ad 2101)), (2, .ref (ad 2102)), (3, .ref (ad 2103)), (4, .int (nI r0))]) hx hb dL_isCellar_279 hl (k := 3) rfl (nI_1 i) (by decide) rfl (fun ls hl => ?_)
          refine lv_goto (tgt := 174) hx hb dL_isCellar_282 (by decide) ?_
          refine W.widen (k := 288 + 24 * (i + 1)) (n := 2160 + 180 * (i + 1)) (by omega) (by omega) ?_
          exact ih (i + 1) _ _ (by omega) hW ls (lv_sub hl [0, 1, 4, 5, 6, 7, 8] rfl)
  have L1 : ∀ (d i : Nat) (H : Heap) (locs : List Loc), i + d = 12 → kS D A s.heap ad w H locs → ∀ ls, lv_has ls 9 [(6, .int (nI i)), (5, .int 1), (0, .ref (ad 0)), (1, .ref (ad 2101)), (2, .ref (ad 2102)), (3, .ref (ad 2103)), (4, .int (nI r0))] → W p l e ({ frames := 8, cells := 920, slots := 6900, locals := 146 }) s m ([.ref (ad 0), .ref (ad 2101), .ref (ad 2102), .ref (ad 2103), .int (nI r0)] : List Value).toArray below meth c H locs (0 + 24 * i) (0 + 180 * i) (MQ below (kQi D A (fun v ad' w' => v = 1 ∧ ad' = ad ∧ w' = w)) ([.ref (ad 0), .ref (ad 2101), .ref (ad 2102), .ref (ad 2103), .int (nI r0)] : List Value).toArray s 920 6900 A) (F0 m 69 ls []) := by
    intro d
    induction d with
    | zero =>
      intro i H locs hi hW ls hl
      obtain rfl : i = 12 := by omega
      refine lv_iload hx hb dL_isCellar_69 (lv_at hl 0 rfl) ?_
      refine lv_bipush (v := 12) hx hb dL_isCellar_71 (by decide) ?_
      refine lv_icmp_ge (tgt := 171) hx hb dL_isCellar_73 (by decide) (fun _ => ?_) (fun c9 => absurd (by decide) c9)
      refine lv_iconst (v := 0) hx hb dL_isCellar_171 (by decide) ?_
      refine W.eq (g2 := F0 m 172 ls [.int (nI 0)]) rfl ?_
      refine lv_istore (lv' := [(6, .int (nI 0)), (5, .int 1), (0, .ref (ad 0)), (1, .ref (ad 2101)), (2, .ref (ad 2102)), (3, .ref (ad 2103)), (4, .int (nI r0))]) hx hb dL_isCellar_172 hl (by decide) rfl (fun ls hl => ?_)
      exact W_cs (c2 := 288 + 24 * 0) (s2 := 2160 + 180 * 0) (by omega) (by omega) (L2 6 0 _ _ (by omega) hW ls (lv_sub hl [0, 1, 2, 3, 4, 5, 6] rfl))
    | succ d ih =>
      intro i H locs hi hW ls hl
      refine lv_iload hx hb dL_isCellar_69 (lv_at hl 0 rfl) ?_
      refine lv_bipush (v := 12) hx hb dL_isCellar_71 (by decide) ?_
      refine lv_icmp_ge (tgt := 171) hx hb dL_isCellar_73 (by decide) (fun c9 => absurd c9 (nI_ge (a := i) (b := 12) (by omega) (by decide))) (fun _ => ?_)
      refine lv_iload hx hb dL_isCellar_76 (lv_at hl 1 rfl) ?_
      refine lv_if_eq (tgt := 171) hx hb dL_isCellar_78 (by decide) (fun c9 => absurd c9 (by decide)) (fun _ => ?_)
      refine lv_aload_n hx hb dL_isCellar_81 rfl (lv_at hl 2 rfl) ?_
      refine lv_iload hx hb dL_isCellar_82 (lv_at hl 0 rfl) ?_
      refine kx_i (vx_runV (As := [.int (nI i)]) (rest := []) ⟨hx, hb, hml, hown, hts⟩ (k_X5_lockOf l hnt D A ad w S nT nC nD nM nZ hC hN (nI i)) (cwV 1 hts gL_isCellar_X5_lockOf rfl rfl rfl (by decide +kernel) ⟨Nat.le_of_ble_eq_true rfl, Nat.le_of_ble_eq_true rfl⟩) (kV hE hW hC.u rfl _) rfl rfl hl.1 rfl (lv_room (Nat.le_of_ble_eq_true rfl)) dL_isCellar_84 ⟨show 0 + 24 * i + 8 ≤ 920 by omega, show 0 + 180 * i + 60 ≤ 6900 by omega⟩) hW (fun E ce q9 H locs hpx _ _ _ _ => (nf_ro (j := i) (by omega) hpx).elim) (fun r54 ad51 w52 H55 locs hp53 hW => ?_)
      obtain ⟨e56, -, e57, e58⟩ := hp53
      rw [e57, e58] at hW
      subst e56
      refine lv_istore (lv' := [(7, .int (lockV S (nI i))), (6, .int (nI i)), (5, .int 1), (0, .ref (ad 0)), (1, .ref (ad 2101)), (2, .ref (ad 2102)), (3, .ref (ad 2103)), (4, .int (nI r0))]) hx hb dL_isCellar_87 hl (by decide) rfl (fun ls hl => ?_)
      rcases lockV_of hN (nI i) with hk | ⟨t, ht, hk, ha⟩
      · rw [hk] at hl
        refine lv_iload hx hb dL_isCellar_89 (lv_at hl 0 rfl) ?_
        refine lv_iconst (v := (-1)) hx hb dL_isCellar_91 (by decide) ?_
        refine lv_icmp_ne (tgt := 121) hx hb dL_isCellar_92 (by decide) (fun c9 => absurd (rfl) c9) (fun _ => ?_)
        refine lv_aload_n hx hb dL_isCellar_95 rfl (lv_at hl 3 rfl) ?_
        refine lv_iload hx hb dL_isCellar_96 (lv_at hl 1 rfl) ?_
        refine kx_i (vx_runV (As := [.int (nI i)]) (rest := []) ⟨hx, hb, hml, hown, hts⟩ (k_X5_now l hnt D A ad w S nT nC nD nM nZ hC hN (nI i)) (cwV 1 hts gL_isCellar_X5_now rfl rfl rfl (by decide +kernel) ⟨Nat.le_of_ble_eq_true rfl, Nat.le_of_ble_eq_true rfl⟩) (kV hE hW hC.u rfl _) rfl rfl hl.1 rfl (lv_room (Nat.le_of_ble_eq_true rfl)) dL_isCellar_98 ⟨show 0 + 24 * i + 8 + 8 ≤ 920 by omega, show 0 + 180 * i + 60 + 60 ≤ 6900 by omega⟩) hW (fun E ce q9 H locs hpx _ _ _ _ => (nf_ro (j := i) (by omega) hpx).elim) (fun r62 ad59 w60 H63 locs hp61 hW => ?_)
        obtain ⟨e64, -, e65, e66⟩ := hp61
        rw [e65, e66] at hW
        subst e64
        rw [show S 0 (nv (nI i)) = S 0 i from by rw [show nv (nI i) = i from nI_clamp (by omega)]]
        refine lv_aload_n hx hb dL_isCellar_101 rfl (lv_at hl 3 rfl) ?_
        refine lv_aload_n hx hb dL_isCellar_102 rfl (lv_at hl 5 rfl) ?_
        refine lv_iconst (v := 0) hx hb dL_isCellar_103 (by decide) ?_
        refine kk_iald hx hb hE hW hA2 (by unfold vp_in; decide) dL_isCellar_104 ?_
        rw [show cF (nv 0) = nI nM from hCF.1.trans hN.2.2.2.1]
        refine lv_iload hx hb dL_isCellar_105 (lv_at hl 1 rfl) ?_
        refine kx_i (vx_runV (As := [.int (nI nM), .int (nI i)]) (rest := [.int (S 0 i)]) ⟨hx, hb, hml, hown, hts⟩ (k_X5_versionAt l hnt D A ad w S nT nC nD nM nZ hC hN (nI nM) (nI i)) (cwV 2 hts gL_isCellar_X5_versionAt rfl rfl rfl (by decide +kernel) ⟨Nat.le_of_ble_eq_true rfl, Nat.le_of_ble_eq_true rfl⟩) (kV hE hW hC.u rfl _) rfl rfl hl.1 rfl (lv_room (Nat.le_of_ble_eq_true rfl)) dL_isCellar_107 ⟨show 0 + 24 * i + 8 + 8 + 8 ≤ 920 by omega, show 0 + 180 * i + 60 + 60 + 60 ≤ 6900 by omega⟩) hW (fun E ce q9 H locs hpx _ _ _ _ => (nf_vr hN (a := nM) (j := i) (Nat.le_refl _) (by omega) hpx).elim) (fun r70 ad67 w68 H71 locs hp69 hW => ?_)
        obtain ⟨e72, -, e73, e74⟩ := hp69
        rw [e73, e74] at hW
        subst e72
        rw [show (vaV S (nI nM) (nI i) (-1)).1 = verV S (nI nM) (nI i) from vaV_ver hN]
        refine lv_icmp_ne (tgt := 117) hx hb dL_isCellar_110 (by decide) (fun c9 => absurd ((ver_now hN hG (by omega) hk).trans (by rw [hN.2.2.2.1])) c9) (fun _ => ?_)
        refine lv_iconst (v := 1) hx hb dL_isCellar_113 (by decide) ?_
        refine lv_goto (tgt := 163) hx hb dL_isCellar_114 (by decide) ?_
        refine lv_istore (lv' := [(5, .int 1), (7, .int (-1)), (6, .int (nI i)), (0, .ref (ad 0)), (1, .ref (ad 2101)), (2, .ref (ad 2102)), (3, .ref (ad 2103)), (4, .int (nI r0))]) hx hb dL_isCellar_163 hl (by decide) rfl (fun ls hl => ?_)
        refine lv_iinc (v := nI (i + 1)) (lv' := [(6, .int (nI (i + 1))), (5, .int 1), (7, .int (-1)), (0, .ref (ad 0)), (1, .ref (ad 2101)), (2, .ref (ad 2102)), (3, .ref (ad 2103)), (4, .int (nI r0))]) hx hb dL_isCellar_165 hl (k := 2) rfl (nI_1 i) (by decide) rfl (fun ls hl => ?_)
        refine lv_goto (tgt := 69) hx hb dL_isCellar_168 (by decide) ?_
        refine W.widen (k := 0 + 24 * (i + 1)) (n := 0 + 180 * (i + 1)) (by omega) (by omega) ?_
        exact ih (i + 1) _ _ (by omega) hW ls (lv_sub hl [0, 1, 3, 4, 5, 6, 7] rfl)
      · rw [hk] at hl
        refine lv_iload hx hb dL_isCellar_89 (lv_at hl 0 rfl) ?_
        refine lv_iconst (v := (-1)) hx hb dL_isCellar_91 (by decide) ?_
        refine lv_icmp_ne (tgt := 121) hx hb dL_isCellar_92 (by decide) (fun _ => ?_) (fun c9 => absurd c9 (nI_nm1 (by omega)))
        refine lv_aload_n hx hb dL_isCellar_121 rfl (lv_at hl 4 rfl) ?_
        refine lv_iload hx hb dL_isCellar_122 (lv_at hl 0 rfl) ?_
        refine kk_i (va_runS (As := [.ref (ad 2101), .int (nI t)]) (rest := []) ⟨hx, hb, hml, hown, hts⟩ (k_L_isActive l hnt D A ad w S nT nC nD nM nZ hN aF hA1 hAF ((nI t)) (Or.inr ⟨t, ht, rfl⟩)) (va_cwS 2 hts gL_isCellar_L_isActive rfl rfl rfl (by decide +kernel) ⟨Nat.le_of_ble_eq_true rfl, Nat.le_of_ble_eq_true rfl⟩) (kSt hE hW _) rfl rfl hl.1 rfl (lv_room (Nat.le_of_ble_eq_true rfl)) dL_isCellar_124 ⟨show 0 + 24 * i + 8 + 0 ≤ 920 by omega, show 0 + 180 * i + 60 + 0 ≤ 6900 by omega⟩) hW (fun r78 ad75 w76 H79 locs hp77 hW => ?_)
        obtain ⟨e80, e81, e82⟩ := hp77
        rw [e81, e82] at hW
        subst e80
        rw [show isA S (nI t) = 1 from by rw [isA_t (show t < 60 by omega)]; exact bI_1 ha]
        refine lv_if_eq (tgt := 162) hx hb dL_isCellar_127 (by decide) (fun c9 => absurd c9 (by decide)) (fun _ => ?_)
        have hsl := lk_slot hN hG (i := i) (by omega) (show t < 60 by omega) hk
        refine lv_aload_n hx hb dL_isCellar_130 rfl (lv_at hl 3 rfl) ?_
        refine lv_iload hx hb dL_isCellar_131 (lv_at hl 1 rfl) ?_
        refine lv_iconst (v := 4) hx hb dL_isCellar_133 (by decide) ?_
        refine lv_idiv hx hb dL_isCellar_134 (by decide) ?_
        rw [show nI i / 4 = nI (i / 4) from pk_div (a := i) (d := 4) (by omega) (by omega) (by omega)]
        refine lv_iconst (v := 0) hx hb dL_isCellar_135 (by decide) ?_
        refine kx_i (vx_runV (As := [.int (nI (i / 4)), .int 0]) (rest := []) ⟨hx, hb, hml, hown, hts⟩ (k_X5_slotOf l hnt D A ad w S nT nC nD nM nZ hC hN (nI (i / 4)) 0) (cwV 2 hts gL_isCellar_X5_slotOf rfl rfl rfl (by decide +kernel) ⟨Nat.le_of_ble_eq_true rfl, Nat.le_of_ble_eq_true rfl⟩) (kV hE hW hC.u rfl _) rfl rfl hl.1 rfl (lv_room (Nat.le_of_ble_eq_true rfl)) dL_isCellar_136 ⟨show 0 + 24 * i + 8 + 0 + 8 ≤ 920 by omega, show 0 + 180 * i + 60 + 0 + 60 ≤ 6900 by omega⟩) hW (fun E ce q9 H locs hpx _ _ _ _ => (nf_so (b := i / 4) (k := 0) (by omega) (by decide) hpx).elim) (fun r86 ad83 w84 H87 locs hp85 hW => ?_)
        obtain ⟨e88, -, e89, e90⟩ := hp85
        rw [e89, e90] at hW
        subst e88
        rw [show S 8 (nv (2 * nI (i / 4) + 0)) = S 8 (2 * (i / 4)) from by rw [show nv (2 * nI (i / 4) + 0) = 2 * (i / 4) from nv_so (b := i / 4) (k := 0) (by omega) (by decide)]]
        refine lv_iload hx hb dL_isCellar_139 (lv_at hl 0 rfl) ?_
        refine lv_icmp_eq (tgt := 158) hx hb dL_isCellar_141 (by decide) (fun c91 => ?_) (fun c91 => ?_)
        · refine lv_iconst (v := 1) hx hb dL_isCellar_158 (by decide) ?_
          refine lv_goto (tgt := 163) hx hb dL_isCellar_159 (by decide) ?_
          refine lv_istore (lv' := [(5, .int 1), (7, .int (nI t)), (6, .int (nI i)), (0, .ref (ad 0)), (1, .ref (ad 2101)), (2, .ref (ad 2102)), (3, .ref (ad 2103)), (4, .int (nI r0))]) hx hb dL_isCellar_163 hl (by decide) rfl (fun ls hl => ?_)
          refine lv_iinc (v := nI (i + 1)) (lv' := [(6, .int (nI (i + 1))), (5, .int 1), (7, .int (nI t)), (0, .ref (ad 0)), (1, .ref (ad 2101)), (2, .ref (ad 2102)), (3, .ref (ad 2103)), (4, .int (nI r0))]) hx hb dL_isCellar_165 hl (k := 2) rfl (nI_1 i) (by decide) rfl (fun ls hl => ?_)
          refine lv_goto (tgt := 69) hx hb dL_isCellar_168 (by decide) ?_
          refine W.widen (k := 0 + 24 * (i + 1)) (n := 0 + 180 * (i + 1)) (by omega) (by omega) ?_
          exact ih (i + 1) _ _ (by omega) hW ls (lv_sub hl [0, 1, 3, 4, 5, 6, 7] rfl)
        · refine lv_aload_n hx hb dL_isCellar_144 rfl (lv_at hl 3 rfl) ?_
          refine lv_iload hx hb dL_isCellar_145 (lv_at hl 1 rfl) ?_
          refine lv_iconst (v := 4) hx hb dL_isCellar_147 (by decide) ?_
          refine lv_idiv hx hb dL_isCellar_148 (by decide) ?_
          rw [show nI i / 4 = nI (i / 4) from pk_div (a := i) (d := 4) (by omega) (by omega) (by omega)]
          refine lv_iconst (v := 1) hx hb dL_isCellar_149 (by decide) ?_
          refine kx_i (vx_runV (As := [.int (nI (i / 4)), .int 1]) (rest := []) ⟨hx, hb, hml, hown, hts⟩ (k_X5_slotOf l hnt D A ad w S nT nC nD nM nZ hC hN (nI (i / 4)) 1) (cwV 2 hts gL_isCellar_X5_slotOf rfl rfl rfl (by decide +kernel) ⟨Nat.le_of_ble_eq_true rfl, Nat.le_of_ble_eq_true rfl⟩) (kV hE hW hC.u rfl _) rfl rfl hl.1 rfl (lv_room (Nat.le_of_ble_eq_true rfl)) dL_isCellar_150 ⟨show 0 + 24 * i + 8 + 0 + 8 + 8 ≤ 920 by omega, show 0 + 180 * i + 60 + 0 + 60 + 60 ≤ 6900 by omega⟩) hW (fun E ce q9 H locs hpx _ _ _ _ => (nf_so (b := i / 4) (k := 1) (by omega) (by decide) hpx).elim) (fun r95 ad92 w93 H96 locs hp94 hW => ?_)
          obtain ⟨e97, -, e98, e99⟩ := hp94
          rw [e98, e99] at hW
          subst e97
          rw [show S 8 (nv (2 * nI (i / 4) + 1)) = S 8 (2 * (i / 4) + 1) from by rw [show nv (2 * nI (i / 4) + 1) = 2 * (i / 4) + 1 from nv_so (b := i / 4) (k := 1) (by omega) (by decide)]]
          refine lv_iload hx hb dL_isCellar_153 (lv_at hl 0 rfl) ?_
          refine lv_icmp_ne (tgt := 162) hx hb dL_isCellar_155 (by decide) (fun c9 => absurd (hsl.resolve_left c91) c9) (fun _ => ?_)
          refine lv_iconst (v := 1) hx hb dL_isCellar_158 (by decide) ?_
          refine lv_goto (tgt := 163) hx hb dL_isCellar_159 (by decide) ?_
          refine lv_istore (lv' := [(5, .int 1), (7, .int (nI t)), (6, .int (nI i)), (0, .ref (ad 0)), (1, .ref (ad 2101)), (2, .ref (ad 2102)), (3, .ref (ad 2103)), (4, .int (nI r0))]) hx hb dL_isCellar_163 hl (by decide) rfl (fun ls hl => ?_)
          refine lv_iinc (v := nI (i + 1)) (lv' := [(6, .int (nI (i + 1))), (5, .int 1), (7, .int (nI t)), (0, .ref (ad 0)), (1, .ref (ad 2101)), (2, .ref (ad 2102)), (3, .ref (ad 2103)), (4, .int (nI r0))]) hx hb dL_isCellar_165 hl (k := 2) rfl (nI_1 i) (by decide) rfl (fun ls hl => ?_)
          refine lv_goto (tgt := 69) hx hb dL_isCellar_168 (by decide) ?_
          refine W.widen (k := 0 + 24 * (i + 1)) (n := 0 + 180 * (i + 1)) (by omega) (by omega) ?_
          exact ih (i + 1) _ _ (by omega) hW ls (lv_sub hl [0, 1, 3, 4, 5, 6, 7] rfl)
  refine lv_aload_n hx hb dL_isCellar_0 rfl (lv_at hl 0 rfl) ?_
  refine kk_i (va_runV (As := []) (rest := []) ⟨hx, hb, hml, hown, hts⟩ (k_X5_moment l D A ad w S nT nC nD nM nZ hC hN) (cwV 0 hts gL_isCellar_X5_moment rfl rfl rfl (by decide +kernel) ⟨Nat.le_of_ble_eq_true rfl, Nat.le_of_ble_eq_true rfl⟩) (kV hE hW hC.u rfl _) rfl rfl hl.1 rfl (lv_room (Nat.le_of_ble_eq_true rfl)) dL_isCellar_1 ⟨show 0 + 0 ≤ 920 by omega, show 0 + 0 ≤ 6900 by omega⟩) hW (fun r103 ad100 w101 H104 locs hp102 hW => ?_)
  obtain ⟨e105, e106, e107⟩ := hp102
  rw [e106, e107] at hW
  subst e105
  refine lv_aload_n hx hb dL_isCellar_4 rfl (lv_at hl 2 rfl) ?_
  refine lv_iconst (v := 0) hx hb dL_isCellar_5 (by decide) ?_
  refine kk_iald hx hb hE hW hA2 (by unfold vp_in; decide) dL_isCellar_6 ?_
  rw [show cF (nv 0) = S 11 0 from hCF.1]
  refine lv_icmp_ne (tgt := 63) hx hb dL_isCellar_7 (by decide) (fun c9 => absurd (rfl) c9) (fun _ => ?_)
  refine lv_aload_n hx hb dL_isCellar_10 rfl (lv_at hl 0 rfl) ?_
  refine kk_i (va_runV (As := []) (rest := []) ⟨hx, hb, hml, hown, hts⟩ (k_X5_transactions l D A ad w S nT nC nD nM nZ hC hN) (cwV 0 hts gL_isCellar_X5_transactions rfl rfl rfl (by decide +kernel) ⟨Nat.le_of_ble_eq_true rfl, Nat.le_of_ble_eq_true rfl⟩) (kV hE hW hC.u rfl _) rfl rfl hl.1 rfl (lv_room (Nat.le_of_ble_eq_true rfl)) dL_isCellar_11 ⟨show 0 + 0 + 0 ≤ 920 by omega, show 0 + 0 + 0 ≤ 6900 by omega⟩) hW (fun r111 ad108 w109 H112 locs hp110 hW => ?_)
  obtain ⟨e113, e114, e115⟩ := hp110
  rw [e114, e115] at hW
  subst e113
  refine lv_aload_n hx hb dL_isCellar_14 rfl (lv_at hl 2 rfl) ?_
  refine lv_iconst (v := 1) hx hb dL_isCellar_15 (by decide) ?_
  refine kk_iald hx hb hE hW hA2 (by unfold vp_in; decide) dL_isCellar_16 ?_
  rw [show cF (nv 1) = S 12 0 from hCF.2.1]
  refine lv_icmp_ne (tgt := 63) hx hb dL_isCellar_17 (by decide) (fun c9 => absurd (rfl) c9) (fun _ => ?_)
  refine lv_aload_n hx hb dL_isCellar_20 rfl (lv_at hl 0 rfl) ?_
  refine kk_i (va_runV (As := []) (rest := []) ⟨hx, hb, hml, hown, hts⟩ (k_X5_records l D A ad w S nT nC nD nM nZ hC hN) (cwV 0 hts gL_isCellar_X5_records rfl rfl rfl (by decide +kernel) ⟨Nat.le_of_ble_eq_true rfl, Nat.le_of_ble_eq_true rfl⟩) (kV hE hW hC.u rfl _) rfl rfl hl.1 rfl (lv_room (Nat.le_of_ble_eq_true rfl)) dL_isCellar_21 ⟨show 0 + 0 + 0 + 0 ≤ 920 by omega, show 0 + 0 + 0 + 0 ≤ 6900 by omega⟩) hW (fun r119 ad116 w117 H120 locs hp118 hW => ?_)
  obtain ⟨e121, e122, e123⟩ := hp118
  rw [e122, e123] at hW
  subst e121
  refine lv_aload_n hx hb dL_isCellar_24 rfl (lv_at hl 2 rfl) ?_
  refine lv_iconst (v := 2) hx hb dL_isCellar_25 (by decide) ?_
  refine kk_iald hx hb hE hW hA2 (by unfold vp_in; decide) dL_isCellar_26 ?_
  rw [show cF (nv 2) = S 13 0 - S 14 0 from hCF.2.2.1]
  refine lv_icmp_ne (tgt := 63) hx hb dL_isCellar_27 (by decide) (fun c9 => absurd (rfl) c9) (fun _ => ?_)
  refine lv_aload_n hx hb dL_isCellar_30 rfl (lv_at hl 0 rfl) ?_
  refine kk_i (va_runV (As := []) (rest := []) ⟨hx, hb, hml, hown, hts⟩ (k_X5_dropped l D A ad w S nT nC nD nM nZ hC hN) (cwV 0 hts gL_isCellar_X5_dropped rfl rfl rfl (by decide +kernel) ⟨Nat.le_of_ble_eq_true rfl, Nat.le_of_ble_eq_true rfl⟩) (kV hE hW hC.u rfl _) rfl rfl hl.1 rfl (lv_room (Nat.le_of_ble_eq_true rfl)) dL_isCellar_31 ⟨show 0 + 0 + 0 + 0 + 0 ≤ 920 by omega, show 0 + 0 + 0 + 0 + 0 ≤ 6900 by omega⟩) hW (fun r127 ad124 w125 H128 locs hp126 hW => ?_)
  obtain ⟨e129, e130, e131⟩ := hp126
  rw [e130, e131] at hW
  subst e129
  refine lv_aload_n hx hb dL_isCellar_34 rfl (lv_at hl 2 rfl) ?_
  refine lv_iconst (v := 3) hx hb dL_isCellar_35 (by decide) ?_
  refine kk_iald hx hb hE hW hA2 (by unfold vp_in; decide) dL_isCellar_36 ?_
  rw [show cF (nv 3) = S 14 0 from hCF.2.2.2.1]
  refine lv_icmp_ne (tgt := 63) hx hb dL_isCellar_37 (by decide) (fun c9 => absurd (rfl) c9) (fun _ => ?_)
  refine lv_aload_n hx hb dL_isCellar_40 rfl (lv_at hl 0 rfl) ?_
  refine kk_i (va_runV (As := []) (rest := []) ⟨hx, hb, hml, hown, hts⟩ (k_X5_marked l D A ad w S nT nC nD nM nZ hC hN) (cwV 0 hts gL_isCellar_X5_marked rfl rfl rfl (by decide +kernel) ⟨Nat.le_of_ble_eq_true rfl, Nat.le_of_ble_eq_true rfl⟩) (kV hE hW hC.u rfl _) rfl rfl hl.1 rfl (lv_room (Nat.le_of_ble_eq_true rfl)) dL_isCellar_41 ⟨show 0 + 0 + 0 + 0 + 0 + 0 ≤ 920 by omega, show 0 + 0 + 0 + 0 + 0 + 0 ≤ 6900 by omega⟩) hW (fun r135 ad132 w133 H136 locs hp134 hW => ?_)
  obtain ⟨e137, e138, e139⟩ := hp134
  rw [e138, e139] at hW
  subst e137
  refine lv_aload_n hx hb dL_isCellar_44 rfl (lv_at hl 2 rfl) ?_
  refine lv_iconst (v := 4) hx hb dL_isCellar_45 (by decide) ?_
  refine kk_iald hx hb hE hW hA2 (by unfold vp_in; decide) dL_isCellar_46 ?_
  rw [show cF (nv 4) = S 15 0 from hCF.2.2.2.2.1]
  refine lv_icmp_ne (tgt := 63) hx hb dL_isCellar_47 (by decide) (fun c9 => absurd (rfl) c9) (fun _ => ?_)
  refine lv_aload_n hx hb dL_isCellar_50 rfl (lv_at hl 2 rfl) ?_
  refine lv_iconst (v := 2) hx hb dL_isCellar_51 (by decide) ?_
  refine kk_iald hx hb hE hW hA2 (by unfold vp_in; decide) dL_isCellar_52 ?_
  rw [show cF (nv 2) = cF 2 from rfl]
  refine lv_aload_n hx hb dL_isCellar_53 rfl (lv_at hl 2 rfl) ?_
  refine lv_iconst (v := 5) hx hb dL_isCellar_54 (by decide) ?_
  refine kk_iald hx hb hE hW hA2 (by unfold vp_in; decide) dL_isCellar_55 ?_
  rw [show cF (nv 5) = cF 5 from rfl]
  refine lv_icmp_gt (tgt := 63) hx hb dL_isCellar_56 (by decide) (fun c9 => absurd c9 (hCF.ge hN)) (fun _ => ?_)
  refine lv_iconst (v := 1) hx hb dL_isCellar_59 (by decide) ?_
  refine lv_goto (tgt := 64) hx hb dL_isCellar_60 (by decide) ?_
  refine lv_istore (lv' := [(5, .int 1), (0, .ref (ad 0)), (1, .ref (ad 2101)), (2, .ref (ad 2102)), (3, .ref (ad 2103)), (4, .int (nI r0))]) hx hb dL_isCellar_64 hl (by decide) rfl (fun ls hl => ?_)
  refine lv_iconst (v := 0) hx hb dL_isCellar_66 (by decide) ?_
  refine W.eq (g2 := F0 m 67 ls [.int (nI 0)]) rfl ?_
  refine lv_istore (lv' := [(6, .int (nI 0)), (5, .int 1), (0, .ref (ad 0)), (1, .ref (ad 2101)), (2, .ref (ad 2102)), (3, .ref (ad 2103)), (4, .int (nI r0))]) hx hb dL_isCellar_67 hl (by decide) rfl (fun ls hl => ?_)
  exact W_cs (c2 := 0 + 24 * 0) (s2 := 0 + 180 * 0) (by omega) (by omega) (L1 12 0 _ _ (by omega) hW ls (lv_sub hl [0, 1, 2, 3, 4, 5, 6] rfl))

