/-! begin and write -/
theorem slF_of (S : St) (t : Int32) (b : Nat) (hb : b < 3) : slF S t b = -1 ∨ ∃ k, k < 6 ∧ slF S t b = nI k := by
  unfold slF ownK freeK
  by_cases c1 : S 8 (2 * b) = t
  · rw [if_pos c1, if_neg (nI_nm1 (by omega))]; exact Or.inr ⟨_, by omega, rfl⟩
  · rw [if_neg c1]
    by_cases c2 : S 8 (2 * b + 1) = t
    · rw [if_pos c2, if_neg (nI_nm1 (by omega))]; exact Or.inr ⟨_, by omega, rfl⟩
    · rw [if_neg c2, if_pos rfl]
      by_cases c3 : freeP S (2 * b)
      · rw [if_pos c3]; exact Or.inr ⟨_, by omega, rfl⟩
      · rw [if_neg c3]
        by_cases c4 : freeP S (2 * b + 1)
        · rw [if_pos c4]; exact Or.inr ⟨_, by omega, rfl⟩
        · rw [if_neg c4]; exact Or.inl rfl
theorem CW.cgv {D : va_G} {S S' : St} {ad : Nat → Nat} {w : kWd} {nT nC : Nat} (h : CW D S ad w nT nC) (hc : ∀ c, c < 10 → S' c = S c) (h10 : S' 10 0 = S 10 0) (h11 : S' 11 0 = S 11 0) (h14 : S' 14 0 = S 14 0) (h15 : S' 15 0 = S 15 0) : CW D S' ad w nT nC := by
  refine h.upU (S' := S') (w1 := w) ?_ hc
  funext k
  by_cases q : k = 0
  · subst q
    rw [va_up_self, h.u]
    show some (uCell ad S) = some (uCell ad S')
    unfold uCell
    rw [h10, h11, h14, h15]
  · rw [va_up_ne _ _ q]
abbrev wr2 (S : St) (b k : Nat) (t : Int32) : St := sA (sA (cleanS S b) 8 k t) 9 k 0
abbrev wr3 (S : St) (b k : Nat) (t x : Int32) : St := sS (wr2 S b k t) 14 (S 14 0 + x)
theorem wrM_eq {S : St} {nC t j k : Nat} {v x : Int32} (h13 : S 13 0 = nI nC) (hC : nC < 2 ^ 31) (hj : j < 12) (hk : slF S (nI t) (j / 4) = nI k) (hk6 : k < 6) (hx : bI (S 13 0 - S 14 0 = S 10 0) = x) : wrM S (nI t) (nI j) v = wr4 (wr3 S (j / 4) k (nI t) x) nC (nI t) (nI j) (S 0 j) v := by
  unfold wrM
  dsimp only
  rw [nv_nI (show j < 2 ^ 31 by omega), hk, nv_nI (show k < 2 ^ 31 by omega), hx, h13, nv_nI hC]
  show sA (sS (sA (sA (sA (wr3 S (j / 4) k (nI t) x) 4 nC (nI t)) 5 nC (nI j)) 6 nC (S 0 j)) 13 (nI nC + 1)) 0 j v = sA (sS (sA (sA (sA (wr3 S (j / 4) k (nI t) x) 4 nC (nI t)) 5 nC (nI j)) 6 nC (S 0 j)) 13 ((cleanS S (j / 4)) 13 0 + 1)) 0 (nv (nI j)) v
  rw [nv_nI (show j < 2 ^ 31 by omega), cleanS_n S (j / 4) (c := 13) (by decide) (by decide), h13]
set_option maxHeartbeats 4000000 in
set_option maxRecDepth 100000 in
/-- k_X5_begin -/
theorem k_X5_begin (l : Launch) (hnt : l.stackTraces = false) (D : va_G) (A : Nat → Prop) (ad : Nat → Nat) (w : kWd) (S : St) (nT nC nD nM nZ : Nat) (hC : CW D S ad w nT nC) (hN : SN S nT nC nD nM nZ)  : vx_Met l yX5_begin wsX5_begin ({ frames := 7, cells := 8, slots := 2060, locals := 231 }) (kPc D A [.ref (ad 0)] ad w) (kQi D A (fun v ad' w' => v = S 12 0 ∧ bgK S = 0 ∧ CW D (bgM S) ad' w' (nT + 1) nC ∧ ad' 0 = ad 0 ∧ FrC ad w ad' w')) (kX D A (fun E => E = xIS ∧ bgK S = 1) ad w) 8 2060 A := by
  refine vx_ofW (cc := cX5_begin) (maxL := 2) (ret := (some (.int))) (by decide) rfl ?_
  intro p e s m args below meth c s₁ B hml hout hv
  obtain ⟨rfl, hE, hW0, hI0, hA⟩ := hv
  have hx := B.exec
  have hb := B.bytes
  have hr := B.returns
  have hts := atoms_spec (ws := wsX5_begin) B.pre
  have hown : s.vm.findClass RX5 = some m.cls := findClass_of_methodNamed B.named
  have hlocks := B.notSynchronized
  have hiRX4 : ∀ w ∈ wsX40, w ∈ wsX5_begin := by decide +kernel
  have hiRX5 : ∀ w ∈ wsX50, w ∈ wsX5_begin := by decide +kernel
  have hW : kS D A s.heap ad w s.heap [] := ⟨hW0, hI0, va_S.rf, hA⟩
  have hl := lv_entry ([.ref (ad 0)]) (n := 2) (Nat.le_of_ble_eq_true rfl)
  rw [lg_entry_eq]
  generalize (lg_sl ([.ref (ad 0)]) ++ List.replicate (2 - (lg_sl ([.ref (ad 0)])).length) Slot.unset).toArray = ls at hl ⊢
  have hl : lv_has ls 2 [(0, .ref (ad 0))] := hl
  have h60 := hN.2.2.2.2.2.1
  have h512 := hN.2.2.2.2.2.2.1
  refine lv_aload_n hx hb dX5_begin_0 rfl (lv_at hl 0 rfl) ?_
  refine kk_get hx hb hts hown hE hW hC.u rfl hiRX5 2 (by decide) (hts (.fieldLink RX5 24 "UndoCellar" "begun" "Ljava/util/ArrayList;") (by decide +kernel)) (fun _ h9 => h9) rfl dX5_begin_1 ?_
  obtain ⟨_, _, _, ehL1, hL1, -⟩ := id hC.lt
  refine kk_i (va_runV (As := []) (rest := []) ⟨hx, hb, hml, hown, hts⟩ (c_size l D A ad w 3 5 nT tkey hC.lt) (cwV 0 hts gX5_begin_Jx4a65c_size_8abf5 rfl rfl rfl (by decide +kernel) ⟨Nat.le_of_ble_eq_true rfl, Nat.le_of_ble_eq_true rfl⟩) (kV hE hW hL1 rfl _) rfl rfl hl.1 rfl (lv_room (Nat.le_of_ble_eq_true rfl)) dX5_begin_4 ⟨Nat.le_of_ble_eq_true rfl, Nat.le_of_ble_eq_true rfl⟩) hW (fun r5 ad2 w3 H6 locs hp4 hW => ?_)
  obtain ⟨e7, e8, e9⟩ := hp4
  rw [e8, e9] at hW
  subst e7
  refine lv_bipush (v := 60) hx hb dX5_begin_7 (by decide) ?_
  refine lv_icmp_lt (tgt := 22) hx hb dX5_begin_9 (by decide) (fun c10 => ?_) (fun c10 => ?_)
  · have h59 : nT < 60 := by
      rcases Nat.lt_or_ge nT 60 with h | h
      · exact h
      · exact absurd c10 (nI_nlt h (by omega))
    have hbg : bgK S = 0 := if_neg (fun q => by rw [hN.1] at q; exact absurd ((nI_eq (a := nT) (b := 60) (by omega) (by omega)).mp q) (by omega))
    have hf0 : w 0 = some (.inr (6, [.ref (ad 1), .ref (ad 2), .ref (ad 3), .ref (ad 4), .int (S 10 0), .int (S 11 0), .int (S 15 0), .int (S 14 0)])) := hC.u
    refine kk_new (ci := 5) hx hb hts hown hE hW (tkey nT) rfl hiRX4 tyX4 tyX4_ok (hts (.classLink RX5 69 RX4) (by decide +kernel)) (hts (.instantiable RX4 5) (by decide +kernel)) (hts (.initialized RX4) (by decide +kernel)) (fs := [.int 0, .int 0, .int 0, .int 0, .int 0]) (by intro j hj; match j, hj with | 0, _ => rfl | 1, _ => rfl | 2, _ => rfl | 3, _ => rfl | 4, _ => rfl) (Nat.le_of_ble_eq_true rfl) (Nat.le_of_ble_eq_true rfl) dX5_begin_22 (fun H15 ad11 w12 ea13 e14 hW => ?_)
    have a16 : ad11 0 = ad 0 := up_n ea13 (by show 0 ≠ 100 + 2 * nT; omega)
    have a17 : ad11 1 = ad 1 := up_n ea13 (by show 1 ≠ 100 + 2 * nT; omega)
    have a18 : ad11 2 = ad 2 := up_n ea13 (by show 2 ≠ 100 + 2 * nT; omega)
    have a19 : ad11 3 = ad 3 := up_n ea13 (by show 3 ≠ 100 + 2 * nT; omega)
    have a20 : ad11 4 = ad 4 := up_n ea13 (by show 4 ≠ 100 + 2 * nT; omega)
    rw [← a16] at hl
    have f21 := (up_n e14 (by show 0 ≠ 100 + 2 * nT; omega)).trans hf0
    rw [← a17, ← a18, ← a19, ← a20] at f21
    have g22 := up_s e14
    have hL1 : AL D 3 5 nT tkey ad11 w12 := hC.lt.keep (up_n e14 (by show _ ≠ 100 + _; omega)) (up_n e14 (by show _ ≠ 100 + _; omega)) (up_n ea13 (by show _ ≠ 100 + _; omega)) (fun i hi => up_n ea13 (by show 100 + 2 * i ≠ 100 + 2 * nT; omega))
    refine lv_dup hx hb dX5_begin_25 rfl ?_
    refine lv_aload_n hx hb dX5_begin_26 rfl (lv_at hl 0 rfl) ?_
    refine kk_get hx hb hts hown hE hW f21 rfl hiRX5 2 (by decide) (hts (.fieldLink RX5 24 "UndoCellar" "begun" "Ljava/util/ArrayList;") (by decide +kernel)) (fun _ h9 => h9) rfl dX5_begin_27 ?_
    obtain ⟨mc9, _, _, e9, hl9, -⟩ := id hL1
    refine kk_i (va_runV (As := []) (rest := [.ref (ad11 (tkey nT)), .ref (ad11 (tkey nT))]) ⟨hx, hb, hml, hown, hts⟩ (c_size l D A ad11 w12 3 5 nT tkey hL1) (cwV 0 hts gX5_begin_Jx4a65c_size_8abf5 rfl rfl rfl (by decide +kernel) ⟨Nat.le_of_ble_eq_true rfl, Nat.le_of_ble_eq_true rfl⟩) (kV hE hW hl9 rfl _) rfl rfl hl.1 rfl (lv_room (Nat.le_of_ble_eq_true rfl)) dX5_begin_30 ⟨Nat.le_of_ble_eq_true rfl, Nat.le_of_ble_eq_true rfl⟩) hW (fun r26 ad23 w24 H27 locs hp25 hW => ?_)
    obtain ⟨e28, e29, e30⟩ := hp25
    rw [e29, e30] at hW
    subst e28
    refine lv_aload_n hx hb dX5_begin_33 rfl (lv_at hl 0 rfl) ?_
    refine kk_get hx hb hts hown hE hW f21 rfl hiRX5 5 (by decide) (hts (.fieldLink RX5 35 "UndoCellar" "momentOfNow" "I") (by decide +kernel)) (fun _ h9 => h9) rfl dX5_begin_34 ?_
    refine kk_v (va_runIN (As := [.int (nI nT), .int (S 11 0)]) (rest := [.ref (ad11 (tkey nT))]) ⟨hx, hb, hml, hown, hts⟩ (k_X4_init l D A ad11 w12 (tkey nT) (nI nT) (S 11 0) g22) ⟨va_cnB 2 hts gX5_begin_X4_init_n71 rfl rfl rfl (hE.N 28 rfl) (hts (.initialized RX4) (by decide +kernel)) (by decide +kernel) ⟨Nat.le_of_ble_eq_true rfl, Nat.le_of_ble_eq_true rfl⟩, rfl, hts (.instanceMethod yX4_init) (by decide +kernel)⟩ (kSt hE hW _) rfl rfl hl.1 rfl (lv_room (Nat.le_of_ble_eq_true rfl)) dX5_begin_37 ⟨Nat.le_of_ble_eq_true rfl, Nat.le_of_ble_eq_true rfl⟩) hW (fun ad31 w32 H35 locs hp33 hW => ?_)
    obtain ⟨e2, g1, f1⟩ := hp33
    rw [e2] at hW
    have f2 := (f1 0 (by show 0 ≠ 100 + 2 * nT; omega)).trans f21
    have hL2 : AL D 3 5 nT tkey ad11 w32 := hL1.keep (f1 3 (by show _ ≠ 100 + _; omega)) (f1 5 (by show _ ≠ 100 + _; omega)) rfl (fun _ _ => rfl)
    obtain ⟨mc8, _, _, e8, hl8, -⟩ := id hL2
    refine lv_astore_n (lv' := [(1, .ref (ad11 (tkey nT))), (0, .ref (ad11 0))]) hx hb dX5_begin_40 rfl hl (by decide) rfl (fun ls hl => ?_)
    refine lv_aload_n hx hb dX5_begin_41 rfl (lv_at hl 1 rfl) ?_
    refine kk_get hx hb hts hown hE hW f2 rfl hiRX5 2 (by decide) (hts (.fieldLink RX5 24 "UndoCellar" "begun" "Ljava/util/ArrayList;") (by decide +kernel)) (fun _ h9 => h9) rfl dX5_begin_42 ?_
    refine lv_aload_n hx hb dX5_begin_45 rfl (lv_at hl 0 rfl) ?_
    have hel : ∀ i, i < nT → (∃ fs, w32 (tkey i) = some (.inr (5, fs))) ∧ tkey i ≠ 7 ∧ tkey i ≠ 5 ∧ tkey i ≠ 3 := fun i hi => ⟨⟨_, (f1 (tkey i) (by show 100 + 2 * i ≠ 100 + 2 * nT; omega)).trans ((up_n e14 (by show 100 + 2 * i ≠ 100 + 2 * nT; omega)).trans (hC.t hi))⟩, by show 100 + _ ≠ _; omega, by show 100 + _ ≠ _; omega, by show 100 + _ ≠ _; omega⟩
    refine kk_i (va_runV (As := [.ref (ad11 (tkey nT))]) (rest := []) ⟨hx, hb, hml, hown, hts⟩ (c_add l D A ad11 w32 3 5 5 nT (tkey nT) tkey _ hL2 (by omega) (by decide) (by decide) (by decide) (Or.inr rfl) hel g1 rfl ⟨by show 100 + _ ≠ _; omega, by show 100 + _ ≠ _; omega, by show 100 + _ ≠ _; omega⟩) (cwV 1 hts gX5_begin_Jx4a65c_add_9ea2d rfl rfl rfl (by decide +kernel) ⟨Nat.le_of_ble_eq_true rfl, Nat.le_of_ble_eq_true rfl⟩) (kV hE hW hl8 rfl _) rfl rfl hl.1 rfl (lv_room (Nat.le_of_ble_eq_true rfl)) dX5_begin_46 ⟨Nat.le_of_ble_eq_true rfl, Nat.le_of_ble_eq_true rfl⟩) hW (fun r39 ad36 w37 H40 locs hp38 hW => ?_)
    obtain ⟨e3, hL3, fw3, fa3⟩ := hp38
    refine lv_pop hx hb dX5_begin_49 rfl ?_
    have a41 : ad36 (tkey nT) = ad11 (tkey nT) := fa3 (tkey nT) (by show 100 + 2 * nT ≠ 5; omega) (by show 100 + 2 * nT ≠ 7; omega)
    have a42 : ad36 0 = ad11 0 := fa3 0 (by decide) (by decide)
    have a43 : ad36 1 = ad11 1 := fa3 1 (by decide) (by decide)
    have a44 : ad36 2 = ad11 2 := fa3 2 (by decide) (by decide)
    have a45 : ad36 3 = ad11 3 := fa3 3 (by decide) (by decide)
    have a46 : ad36 4 = ad11 4 := fa3 4 (by decide) (by decide)
    rw [← a41, ← a42] at hl
    have f47 := (fw3 0 (by decide) (by decide) (by decide)).trans f2
    rw [← a43, ← a44, ← a45, ← a46] at f47
    have f48 := (fw3 (tkey nT) (by show 100 + 2 * nT ≠ 3; omega) (by show 100 + 2 * nT ≠ 5; omega) (by show 100 + 2 * nT ≠ 7; omega)).trans g1
    refine lv_aload_n hx hb dX5_begin_50 rfl (lv_at hl 0 rfl) ?_
    refine kk_getN hx hb hts hown hE hW f48 rfl hiRX4 0 (by decide) (hE.N 8 rfl) (fun _ h9 => h9) rfl dX5_begin_51 ?_
    have hC9 := hC.bg (ad' := ad36) (w' := w37) hN h59 hL3 f48 (fun k q1 q2 q3 q4 => (fw3 k q1 q2 q3).trans ((f1 k q4).trans (up_n e14 q4))) (fun k q1 q2 q3 => (fa3 k q1 q2).trans (up_n ea13 q3))
    have hF9 : FrC ad w ad36 w37 := fun k hk => ⟨(fw3 k (by omega) (by omega) (by omega)).trans ((f1 k (by show k ≠ 100 + 2 * nT; omega)).trans (up_n e14 (by show k ≠ 100 + 2 * nT; omega))), (fa3 k (by omega) (by omega)).trans (up_n ea13 (by show k ≠ 100 + 2 * nT; omega))⟩
    exact vx_ret (ke_i hx hb hr hlocks (Nat.le_of_ble_eq_true rfl) (Nat.le_of_ble_eq_true rfl) dX5_begin_54 hW (⟨hN.1.symm, hbg, hC9, (fa3 0 (by decide) (by decide)).trans (up_n ea13 (by show 0 ≠ 100 + 2 * nT; omega)), hF9⟩))
  · have hbg : bgK S = 1 := if_pos (by
      rcases Nat.lt_or_ge nT 60 with h | h
      · exact absurd (nI_lt h (by omega)) c10
      · rw [hN.1, show nT = 60 by omega]
        rfl)
    exact kk_throw kf_IS hx hb hnt hown (fun w h => hts w (List.mem_cons_of_mem _ (List.mem_append_right _ h))) (hts (.classLink RX5 59 "java/lang/IllegalStateException") (by decide +kernel)) (hts (.initialized "java/lang/IllegalStateException") (by decide +kernel)) hE hW (hl.1.trans hml.symm) (hE.R 2 rfl) dX5_begin_12 dX5_begin_15 dX5_begin_16 dX5_begin_18 dX5_begin_21 hout ⟨Nat.le_of_ble_eq_true rfl, Nat.le_of_ble_eq_true rfl, Nat.le_of_ble_eq_true rfl, Nat.le_of_ble_eq_true rfl⟩ hlocks (⟨rfl, hbg⟩) (Nat.le_of_ble_eq_true rfl) (Nat.le_of_ble_eq_true rfl)

set_option maxHeartbeats 4000000 in
set_option maxRecDepth 100000 in
/-- k_X5_write -/
theorem k_X5_write (l : Launch) (hnt : l.stackTraces = false) (D : va_G) (A : Nat → Prop) (ad : Nat → Nat) (w : kWd) (S : St) (nT nC nD nM nZ : Nat) (hC : CW D S ad w nT nC) (hN : SN S nT nC nD nM nZ) (hlt : nC < 512) (i r x : Int32) : vx_Met l yX5_write wsX5_write ({ frames := 7, cells := 10, slots := 2100, locals := 231 }) (kPc D A [.ref (ad 0), .int i, .int r, .int x] ad w) (kQi D A (fun v ad' w' => v = S 0 (nv r) ∧ wrK S i r x = 0 ∧ CW D (wrM S i r x) ad' w' nT (nC + 1) ∧ ad' 0 = ad 0 ∧ FrC ad w ad' w')) (kX D A (fun E => (E = xIO ∧ wrK S i r x = 1) ∨ (E = xIA ∧ wrK S i r x = 2) ∨ (E = xIS ∧ wrK S i r x = 3)) ad w) 10 2100 A := by
  refine vx_ofW (cc := cX5_write) (maxL := 8) (ret := (some (.int))) (by decide) rfl ?_
  intro p e s m args below meth c s₁ B hml hout hv
  obtain ⟨rfl, hE, hW0, hI0, hA⟩ := hv
  have hx := B.exec
  have hb := B.bytes
  have hr := B.returns
  have hts := atoms_spec (ws := wsX5_write) B.pre
  have hown : s.vm.findClass RX5 = some m.cls := findClass_of_methodNamed B.named
  have hlocks := B.notSynchronized
  have hiRX1 : ∀ w ∈ wsX10, w ∈ wsX5_write := by decide +kernel
  have hiRX2 : ∀ w ∈ wsX20, w ∈ wsX5_write := by decide +kernel
  have hiRX5 : ∀ w ∈ wsX50, w ∈ wsX5_write := by decide +kernel
  have hW : kS D A s.heap ad w s.heap [] := ⟨hW0, hI0, va_S.rf, hA⟩
  have hl := lv_entry ([.ref (ad 0), .int i, .int r, .int x]) (n := 8) (Nat.le_of_ble_eq_true rfl)
  rw [lg_entry_eq]
  generalize (lg_sl ([.ref (ad 0), .int i, .int r, .int x]) ++ List.replicate (8 - (lg_sl ([.ref (ad 0), .int i, .int r, .int x])).length) Slot.unset).toArray = ls at hl ⊢
  have hl : lv_has ls 8 [(0, .ref (ad 0)), (1, .int i), (2, .int r), (3, .int x)] := hl
  have h60 := hN.2.2.2.2.2.1
  have h512 := hN.2.2.2.2.2.2.1
  have hd := hN.2.2.2.2.2.2.2.1
  have hz1 := hN.2.2.2.2.2.2.2.2.2.1
  have hz30 := hN.2.2.2.2.2.2.2.2.2.2.1
  have hzz := hN.2.2.2.2.2.2.2.2.2.2.2.1
  refine lv_aload_n hx hb dX5_write_0 rfl (lv_at hl 0 rfl) ?_
  refine lv_iload_n hx hb dX5_write_1 rfl (lv_at hl 1 rfl) ?_
  refine kx_q (vx_runV (As := [.int i]) (rest := []) ⟨hx, hb, hml, hown, hts⟩ (k_X5_transactionNumbered l hnt D A ad w S nT nC nD nM nZ hC hN i) (cwV 1 hts gX5_write_X5_transactionNumbered rfl rfl rfl (by decide +kernel) ⟨Nat.le_of_ble_eq_true rfl, Nat.le_of_ble_eq_true rfl⟩) (kV hE hW hC.u rfl _) rfl rfl hl.1 rfl (lv_room (Nat.le_of_ble_eq_true rfl)) dX5_write_2 ⟨Nat.le_of_ble_eq_true rfl, Nat.le_of_ble_eq_true rfl⟩) hW (kx_out hout hlocks (Nat.le_of_ble_eq_true rfl) (Nat.le_of_ble_eq_true rfl) (fun E h9 => ⟨Or.inl ⟨h9.1, wrK_1 (fun z => h9.2 z.1)⟩, rfl, rfl⟩)) (fun r4 ad1 w2 H5 locs hp3 hW => ?_)
  obtain ⟨e6, q9, e7, e8⟩ := hp3
  rw [e7, e8] at hW
  subst e6
  obtain ⟨t, ht, rfl⟩ := (trP_iff hN).mp q9
  have qt : trP S (nI t) := (trP_iff hN).mpr ⟨t, ht, rfl⟩
  have nt : nv (nI t) = t := nv_nI (by omega)
  refine W.eq (g2 := F0 m 5 ls [.ref (ad (tkey t))]) (by rw [nv_nI (by omega)]; rfl) ?_
  refine lv_astore (lv' := [(4, .ref (ad (tkey t))), (0, .ref (ad 0)), (1, .int (nI t)), (2, .int r), (3, .int x)]) hx hb dX5_write_5 hl (by decide) rfl (fun ls hl => ?_)
  refine lv_aload_n hx hb dX5_write_7 rfl (lv_at hl 1 rfl) ?_
  refine lv_iload_n hx hb dX5_write_8 rfl (lv_at hl 3 rfl) ?_
  refine kx_q (vx_runV (As := [.int r]) (rest := []) ⟨hx, hb, hml, hown, hts⟩ (k_X5_rowNumbered l hnt D A ad w S nT nC nD nM nZ hC hN r) (cwV 1 hts gX5_write_X5_rowNumbered rfl rfl rfl (by decide +kernel) ⟨Nat.le_of_ble_eq_true rfl, Nat.le_of_ble_eq_true rfl⟩) (kV hE hW hC.u rfl _) rfl rfl hl.1 rfl (lv_room (Nat.le_of_ble_eq_true rfl)) dX5_write_9 ⟨Nat.le_of_ble_eq_true rfl, Nat.le_of_ble_eq_true rfl⟩) hW (kx_out hout hlocks (Nat.le_of_ble_eq_true rfl) (Nat.le_of_ble_eq_true rfl) (fun E h9 => ⟨Or.inl ⟨h9.1, wrK_1 (fun z => h9.2 z.2)⟩, rfl, rfl⟩)) (fun r13 ad10 w11 H14 locs hp12 hW => ?_)
  obtain ⟨e15, q18, e16, e17⟩ := hp12
  rw [e16, e17] at hW
  subst e15
  obtain ⟨j, hj, rfl⟩ := roP_iff.mp q18
  have qj : roP (nI j) := roP_iff.mpr ⟨j, hj, rfl⟩
  have nj : nv (nI j) = j := nv_nI (by omega)
  refine W.eq (g2 := F0 m 12 ls [.ref (ad (24 + j))]) (by rw [nv_nI (by omega)]; rfl) ?_
  refine lv_astore (lv' := [(5, .ref (ad (24 + j))), (4, .ref (ad (tkey t))), (0, .ref (ad 0)), (1, .int (nI t)), (2, .int (nI j)), (3, .int x)]) hx hb dX5_write_12 hl (by decide) rfl (fun ls hl => ?_)
  refine lv_iload_n hx hb dX5_write_14 rfl (lv_at hl 5 rfl) ?_
  refine lv_ldc (v := (-1000000)) hx hb hown (hts (.constant RX5 89 ((-1000000))) (by decide +kernel)) dX5_write_15 ?_
  refine lv_icmp_lt (tgt := 26) hx hb dX5_write_17 (by decide) (fun c19 => ?_) (fun c19 => ?_)
  · exact kk_throw kf_IA hx hb hnt hown (fun w h => hts w (List.mem_cons_of_mem _ (List.mem_append_left _ (List.mem_append_left _ (List.mem_append_right _ h))))) (hts (.classLink RX5 48 "java/lang/IllegalArgumentException") (by decide +kernel)) (hts (.initialized "java/lang/IllegalArgumentException") (by decide +kernel)) hE hW (hl.1.trans hml.symm) (hE.R 3 rfl) dX5_write_26 dX5_write_29 dX5_write_30 dX5_write_32 dX5_write_35 hout ⟨Nat.le_of_ble_eq_true rfl, Nat.le_of_ble_eq_true rfl, Nat.le_of_ble_eq_true rfl, Nat.le_of_ble_eq_true rfl⟩ hlocks (Or.inr (Or.inl ⟨rfl, wrK_2 ⟨qt, qj⟩ (fun z => z.1 c19)⟩)) (Nat.le_of_ble_eq_true rfl) (Nat.le_of_ble_eq_true rfl)
  · refine lv_iload_n hx hb dX5_write_20 rfl (lv_at hl 5 rfl) ?_
    refine lv_ldc (v := 1000000) hx hb hown (hts (.constant RX5 90 (1000000)) (by decide +kernel)) dX5_write_21 ?_
    refine lv_icmp_le (tgt := 36) hx hb dX5_write_23 (by decide) (fun c20 => ?_) (fun c20 => ?_)
    · have hg : goodP x := ⟨c19, Int32.not_lt.mpr c20⟩
      refine lv_aload_n hx hb dX5_write_36 rfl (lv_at hl 2 rfl) ?_
      refine lv_aload hx hb dX5_write_37 (lv_at hl 1 rfl) ?_
      refine kx_v (vx_runV (As := [.ref (ad (tkey t))]) (rest := []) ⟨hx, hb, hml, hown, hts⟩ (k_X5_refuseIfEnded l hnt D A ad w S nT nC nD nM nZ hC hN t ht) (cwV 1 hts gX5_write_X5_refuseIfEnded rfl rfl rfl (by decide +kernel) ⟨Nat.le_of_ble_eq_true rfl, Nat.le_of_ble_eq_true rfl⟩) (kV hE hW hC.u rfl _) rfl rfl hl.1 rfl (lv_room (Nat.le_of_ble_eq_true rfl)) dX5_write_39 ⟨Nat.le_of_ble_eq_true rfl, Nat.le_of_ble_eq_true rfl⟩) hW (kx_out hout hlocks (Nat.le_of_ble_eq_true rfl) (Nat.le_of_ble_eq_true rfl) (fun E h9 => ⟨Or.inr (Or.inr ⟨h9.1, wrK_3 ⟨qt, qj⟩ hg (fun z => (show ¬ actP S (nI t) from by unfold actP; rw [nt]; exact h9.2) z.1.2.2)⟩), rfl, rfl⟩)) (fun ad21 w22 H25 locs hp23 hW => ?_)
      obtain ⟨q29, e27, e28⟩ := hp23
      rw [e27, e28] at hW
      have aat : actP S (nI t) := by unfold actP; rw [nt]; exact q29
      refine lv_aload_n hx hb dX5_write_42 rfl (lv_at hl 2 rfl) ?_
      refine lv_aload hx hb dX5_write_43 (lv_at hl 0 rfl) ?_
      refine lv_aload hx hb dX5_write_45 (lv_at hl 1 rfl) ?_
      refine kx_v (vx_runV (As := [.ref (ad (24 + j)), .ref (ad (tkey t))]) (rest := []) ⟨hx, hb, hml, hown, hts⟩ (k_X5_refuseIfLockedByAnother l hnt D A ad w S nT nC nD nM nZ hC hN j hj t ht) (cwV 2 hts gX5_write_X5_refuseIfLockedByAnother rfl rfl rfl (by decide +kernel) ⟨Nat.le_of_ble_eq_true rfl, Nat.le_of_ble_eq_true rfl⟩) (kV hE hW hC.u rfl _) rfl rfl hl.1 rfl (lv_room (Nat.le_of_ble_eq_true rfl)) dX5_write_47 ⟨Nat.le_of_ble_eq_true rfl, Nat.le_of_ble_eq_true rfl⟩) hW (kx_out hout hlocks (Nat.le_of_ble_eq_true rfl) (Nat.le_of_ble_eq_true rfl) (fun E h9 => ⟨Or.inr (Or.inr ⟨h9.1, wrK_3 ⟨qt, qj⟩ hg (fun z => h9.2 z.2.1)⟩), rfl, rfl⟩)) (fun ad30 w31 H34 locs hp32 hW => ?_)
      obtain ⟨q38, e36, e37⟩ := hp32
      rw [e36, e37] at hW
      refine lv_aload_n hx hb dX5_write_50 rfl (lv_at hl 2 rfl) ?_
      refine kx_v (vx_runV (As := []) (rest := []) ⟨hx, hb, hml, hown, hts⟩ (k_X5_refuseIfNoSpace l hnt D A ad w S nT nC nD nM nZ hC hN hlt) (cwV 0 hts gX5_write_X5_refuseIfNoSpace rfl rfl rfl (by decide +kernel) ⟨Nat.le_of_ble_eq_true rfl, Nat.le_of_ble_eq_true rfl⟩) (kV hE hW hC.u rfl _) rfl rfl hl.1 rfl (lv_room (Nat.le_of_ble_eq_true rfl)) dX5_write_51 ⟨Nat.le_of_ble_eq_true rfl, Nat.le_of_ble_eq_true rfl⟩) hW (kx_out hout hlocks (Nat.le_of_ble_eq_true rfl) (Nat.le_of_ble_eq_true rfl) (fun E h9 => ⟨Or.inr (Or.inr ⟨h9.1, wrK_3 ⟨qt, qj⟩ hg (fun z => h9.2 z.2.2.2)⟩), rfl, rfl⟩)) (fun ad39 w40 H43 locs hp41 hW => ?_)
      obtain ⟨q47, e45, e46⟩ := hp41
      rw [e45, e46] at hW
      refine lv_aload hx hb dX5_write_54 (lv_at hl 0 rfl) ?_
      refine kk_getN hx hb hts hown hE hW (hC.r hj) rfl hiRX2 0 (by decide) (hE.N 5 rfl) (fun _ h9 => h9) rfl dX5_write_56 ?_
      refine lv_aload hx hb dX5_write_59 (lv_at hl 1 rfl) ?_
      have hb3 : j / 4 < 3 := by omega
      refine kk_q (va_runVN (As := [.ref (ad (tkey t))]) (rest := []) ⟨hx, hb, hml, hown, hts⟩ (k_X0_slotFor l D A ad w S nT nC nD nM nZ hC hN (j / 4) hb3 t ht) ⟨va_cnB 1 hts gX5_write_X0_slotFor_n108 rfl rfl rfl (hE.N 18 rfl) (hts (.initialized RX0) (by decide +kernel)) (by decide +kernel) ⟨Nat.le_of_ble_eq_true rfl, Nat.le_of_ble_eq_true rfl⟩, hts (.instanceMethod yX0_slotFor) (by decide +kernel), hts (.selects RX0 yX0_slotFor yX0_slotFor) (by decide +kernel)⟩ (kV hE hW (hC.b hb3) rfl _) rfl rfl hl.1 rfl (lv_room (Nat.le_of_ble_eq_true rfl)) dX5_write_61 ⟨Nat.le_of_ble_eq_true rfl, Nat.le_of_ble_eq_true rfl⟩) hW (fun r51 ad48 w49 H52 locs hp50 hW => ?_)
      obtain ⟨e53, e54, e55⟩ := hp50
      rw [e54, e55] at hW
      subst e53
      rcases slF_of S (nI t) (j / 4) hb3 with hk | ⟨k, hk6, hk⟩
      · refine W.eq (g2 := F0 m 64 ls [.null]) (by rw [slO_n hk]; rfl) ?_
        refine lv_astoreN (lv' := [(6, .null), (5, .ref (ad (24 + j))), (4, .ref (ad (tkey t))), (0, .ref (ad 0)), (1, .int (nI t)), (2, .int (nI j)), (3, .int x)]) hx hb dX5_write_64 hl (by decide) rfl (fun ls hl => ?_)
        refine lv_aloadN hx hb dX5_write_66 (lv_at hl 0 rfl) ?_
        refine lv_ifnonnullN hx hb dX5_write_68 ?_
        exact kk_throw kf_IS hx hb hnt hown (fun w h => hts w (List.mem_cons_of_mem _ (List.mem_append_left _ (List.mem_append_right _ h)))) (hts (.classLink RX5 59 "java/lang/IllegalStateException") (by decide +kernel)) (hts (.initialized "java/lang/IllegalStateException") (by decide +kernel)) hE hW (hl.1.trans hml.symm) (hE.R 4 rfl) dX5_write_71 dX5_write_74 dX5_write_75 dX5_write_77 dX5_write_80 hout ⟨Nat.le_of_ble_eq_true rfl, Nat.le_of_ble_eq_true rfl, Nat.le_of_ble_eq_true rfl, Nat.le_of_ble_eq_true rfl⟩ hlocks (Or.inr (Or.inr ⟨rfl, wrK_3 ⟨qt, qj⟩ hg (fun z => z.2.2.1 (by rw [nj]; exact hk))⟩)) (Nat.le_of_ble_eq_true rfl) (Nat.le_of_ble_eq_true rfl)
      · refine W.eq (g2 := F0 m 64 ls [.ref (ad (16 + k))]) (by rw [slO_s hk hk6]; rfl) ?_
        refine lv_astore (lv' := [(6, .ref (ad (16 + k))), (5, .ref (ad (24 + j))), (4, .ref (ad (tkey t))), (0, .ref (ad 0)), (1, .int (nI t)), (2, .int (nI j)), (3, .int x)]) hx hb dX5_write_64 hl (by decide) rfl (fun ls hl => ?_)
        refine lv_aload hx hb dX5_write_66 (lv_at hl 0 rfl) ?_
        refine lv_ifnonnull (tgt := 81) hx hb dX5_write_68 (by decide) ?_
        refine lv_aload_n hx hb dX5_write_81 rfl (lv_at hl 3 rfl) ?_
        refine lv_aload hx hb dX5_write_82 (lv_at hl 1 rfl) ?_
        refine kk_getN hx hb hts hown hE hW (hC.r hj) rfl hiRX2 0 (by decide) (hE.N 5 rfl) (fun _ h9 => h9) rfl dX5_write_84 ?_
        have hK0 : wrK S (nI t) (nI j) x = 0 := wrK_0 ⟨qt, qj⟩ hg ⟨⟨⟨qt, qj⟩, hg, aat⟩, q38, by rw [nj, hk]; exact nI_nm1 (by omega), q47⟩
        refine kk_v (va_runV (As := [.ref (ad (10 + j / 4))]) (rest := []) ⟨hx, hb, hml, hown, hts⟩ (k_X5_clean l D A ad w S nT nC nD nM nZ hC hN (j / 4) hb3) (cwV 1 hts gX5_write_X5_clean rfl rfl rfl (by decide +kernel) ⟨Nat.le_of_ble_eq_true rfl, Nat.le_of_ble_eq_true rfl⟩) (kV hE hW hC.u rfl _) rfl rfl hl.1 rfl (lv_room (Nat.le_of_ble_eq_true rfl)) dX5_write_87 ⟨Nat.le_of_ble_eq_true rfl, Nat.le_of_ble_eq_true rfl⟩) hW (fun ad56 w57 H60 locs hp58 hW => ?_)
        obtain ⟨e2, hC1, hF1⟩ := hp58
        rw [e2] at hW
        have hN1 := hN.cl (j / 4)
        refine lv_aload hx hb dX5_write_90 (lv_at hl 0 rfl) ?_
        refine lv_aload hx hb dX5_write_92 (lv_at hl 2 rfl) ?_
        refine kk_v (va_runVN (As := [.ref (ad (tkey t))]) (rest := []) ⟨hx, hb, hml, hown, hts⟩ (k_X3_give l D A ad w57 (cleanS S (j / 4)) nT nC nD nM nZ hC1 hN1 k hk6 t ht) ⟨va_cnB 1 hts gX5_write_X3_give_n117 rfl rfl rfl (hE.N 19 rfl) (hts (.initialized RX3) (by decide +kernel)) (by decide +kernel) ⟨Nat.le_of_ble_eq_true rfl, Nat.le_of_ble_eq_true rfl⟩, hts (.instanceMethod yX3_give) (by decide +kernel), hts (.selects RX3 yX3_give yX3_give) (by decide +kernel)⟩ (kV hE hW (hC1.s hk6) rfl _) rfl rfl hl.1 rfl (lv_room (Nat.le_of_ble_eq_true rfl)) dX5_write_94 ⟨Nat.le_of_ble_eq_true rfl, Nat.le_of_ble_eq_true rfl⟩) hW (fun ad61 w62 H65 locs hp63 hW => ?_)
        obtain ⟨e3, hC2, hF2⟩ := hp63
        rw [e3] at hW
        have hN2 : SN (wr2 S (j / 4) k (nI t)) nT nC nD nM nZ := (hN1.u8 (k := k) ht).u9 (k := k) (x := 0) (Or.inl rfl)
        replace hC2 : CW D (wr2 S (j / 4) k (nI t)) ad w62 nT nC := hC2
        have n13 : wr2 S (j / 4) k (nI t) 13 = S 13 := cleanS_n S (j / 4) (by decide) (by decide)
        have n14 : wr2 S (j / 4) k (nI t) 14 = S 14 := cleanS_n S (j / 4) (by decide) (by decide)
        have n10 : wr2 S (j / 4) k (nI t) 10 = S 10 := cleanS_n S (j / 4) (by decide) (by decide)
        have n0 : wr2 S (j / 4) k (nI t) 0 = S 0 := cleanS_n S (j / 4) (by decide) (by decide)
        refine lv_aload_n hx hb dX5_write_97 rfl (lv_at hl 3 rfl) ?_
        refine kk_i (va_runV (As := []) (rest := []) ⟨hx, hb, hml, hown, hts⟩ (k_X5_isSpaceFull l D A ad w62 (wr2 S (j / 4) k (nI t)) nT nC nD nM nZ hC2 hN2) (cwV 0 hts gX5_write_X5_isSpaceFull rfl rfl rfl (by decide +kernel) ⟨Nat.le_of_ble_eq_true rfl, Nat.le_of_ble_eq_true rfl⟩) (kV hE hW hC2.u rfl _) rfl rfl hl.1 rfl (lv_room (Nat.le_of_ble_eq_true rfl)) dX5_write_98 ⟨Nat.le_of_ble_eq_true rfl, Nat.le_of_ble_eq_true rfl⟩) hW (fun r69 ad66 w67 H70 locs hp68 hW => ?_)
        obtain ⟨e71, e72, e73⟩ := hp68
        rw [e72, e73] at hW
        subst e71
        have hnum : S 13 0 - S 14 0 = nI (nC - nD) := by rw [hN.2.1, hN.2.2.1]; exact pk_sub hd
        have h10 := hN.2.2.2.2.1
        refine lv_if_eq (tgt := 114) hx hb dX5_write_101 (by decide) (fun c74 => ?_) (fun c74 => ?_)
        · have hnf : nC - nD < nZ := by
            rcases Nat.lt_or_ge (nC - nD) nZ with h | h
            · exact h
            · exact absurd (show nD < nC ∧ wr2 S (j / 4) k (nI t) 10 0 ≤ wr2 S (j / 4) k (nI t) 13 0 - wr2 S (j / 4) k (nI t) 14 0 from ⟨by omega, by rw [n10, n13, n14, hnum, h10]; exact nI_le h (by omega)⟩) (bI_f c74)
          have hx9 : bI (S 13 0 - S 14 0 = S 10 0) = nI 0 := bI_0 (fun q => by rw [hnum, h10] at q; have := (nI_eq (by omega) (by omega)).mp q; omega)
          have hC3 : CW D (wr3 S (j / 4) k (nI t) (nI 0)) ad w62 nT nC := hC2.cgv (fun c h => sU_n (by omega)) rfl rfl (by show S 14 0 + 0 = wr2 S (j / 4) k (nI t) 14 0; rw [n14, Int32.add_zero]) rfl
          have hN3 : SN (wr3 S (j / 4) k (nI t) (nI 0)) nT nC (nD + 0) nM nZ := by
            have := hN2.dr (d := 0) (by omega)
            rw [show wr2 S (j / 4) k (nI t) 14 0 = S 14 0 by rw [n14]] at this
            exact this
          have g0 : w62 (0) = some (.inr (6, [.ref (ad 1), .ref (ad 2), .ref (ad 3), .ref (ad 4), .int ((wr3 S (j / 4) k (nI t) (nI 0)) 10 0), .int ((wr3 S (j / 4) k (nI t) (nI 0)) 11 0), .int ((wr3 S (j / 4) k (nI t) (nI 0)) 15 0), .int ((wr3 S (j / 4) k (nI t) (nI 0)) 14 0)])) := hC3.u
          have gr : w62 (24 + j) = some (.inr (3, [.ref (ad (10 + j / 4)), .int ((wr3 S (j / 4) k (nI t) (nI 0)) 0 j)])) := hC3.r hj
          have gt : w62 (tkey t) = some (.inr (5, [.int (nI t), .int ((wr3 S (j / 4) k (nI t) (nI 0)) 2 t), .int (bI ((wr3 S (j / 4) k (nI t) (nI 0)) 1 t = 0)), .int (if (wr3 S (j / 4) k (nI t) (nI 0)) 1 t = 1 then (wr3 S (j / 4) k (nI t) (nI 0)) 3 t else -1), .int (stL (wr3 S (j / 4) k (nI t) (nI 0)) (nI t) nC)])) := hC3.t ht
          refine kk_new (ci := 2) hx hb hts hown hE hW (ckey nC) rfl hiRX1 tyX1 tyX1_ok (hts (.classLink RX5 126 RX1) (by decide +kernel)) (hts (.instantiable RX1 4) (by decide +kernel)) (hts (.initialized RX1) (by decide +kernel)) (fs := [.null, .null, .int 0, .int 0]) (by intro j hj; match j, hj with | 0, _ => rfl | 1, _ => rfl | 2, _ => rfl | 3, _ => rfl) (Nat.le_of_ble_eq_true rfl) (Nat.le_of_ble_eq_true rfl) dX5_write_114 (fun H79 ad75 w76 ea77 e78 hW => ?_)
          have a80 : ad75 (16 + k) = ad (16 + k) := up_n ea77 (by show 16 + k ≠ 101 + 2 * nC; omega)
          have a81 : ad75 (24 + j) = ad (24 + j) := up_n ea77 (by show 24 + j ≠ 101 + 2 * nC; omega)
          have a82 : ad75 (tkey t) = ad (tkey t) := up_n ea77 (by show 100 + 2 * t ≠ 101 + 2 * nC; omega)
          have a83 : ad75 0 = ad 0 := up_n ea77 (by show 0 ≠ 101 + 2 * nC; omega)
          have a84 : ad75 1 = ad 1 := up_n ea77 (by show 1 ≠ 101 + 2 * nC; omega)
          have a85 : ad75 2 = ad 2 := up_n ea77 (by show 2 ≠ 101 + 2 * nC; omega)
          have a86 : ad75 3 = ad 3 := up_n ea77 (by show 3 ≠ 101 + 2 * nC; omega)
          have a87 : ad75 4 = ad 4 := up_n ea77 (by show 4 ≠ 101 + 2 * nC; omega)
          have a88 : ad75 (10 + j / 4) = ad (10 + j / 4) := up_n ea77 (by show 10 + j / 4 ≠ 101 + 2 * nC; omega)
          rw [← a80, ← a81, ← a82, ← a83] at hl
          have f89 := (up_n e78 (by show 0 ≠ 101 + 2 * nC; omega)).trans g0
          rw [← a84, ← a85, ← a86, ← a87] at f89
          have f90 := (up_n e78 (by show 24 + j ≠ 101 + 2 * nC; omega)).trans gr
          rw [← a88] at f90
          have f91 := (up_n e78 (by show 100 + 2 * t ≠ 101 + 2 * nC; omega)).trans gt
          have g92 := up_s e78
          refine lv_dup hx hb dX5_write_117 rfl ?_
          refine lv_aload hx hb dX5_write_118 (lv_at hl 2 rfl) ?_
          refine lv_aload hx hb dX5_write_120 (lv_at hl 1 rfl) ?_
          refine lv_aload hx hb dX5_write_122 (lv_at hl 1 rfl) ?_
          refine kk_getN hx hb hts hown hE hW f90 rfl hiRX2 1 (by decide) (hE.N 7 rfl) (fun _ h9 => h9) rfl dX5_write_124 ?_
          refine kk_v (va_runIN (As := [.ref (ad75 (tkey t)), .ref (ad75 (24 + j)), .int ((wr3 S (j / 4) k (nI t) (nI 0)) 0 j)]) (rest := [.ref (ad75 (ckey nC))]) ⟨hx, hb, hml, hown, hts⟩ (k_X1_init l D A ad75 w76 (ckey nC) (tkey t) (24 + j) ((wr3 S (j / 4) k (nI t) (nI 0)) 0 j) g92) ⟨va_cnB 3 hts gX5_write_X1_init_n131 rfl rfl rfl (hE.N 20 rfl) (hts (.initialized RX1) (by decide +kernel)) (by decide +kernel) ⟨Nat.le_of_ble_eq_true rfl, Nat.le_of_ble_eq_true rfl⟩, rfl, hts (.instanceMethod yX1_init) (by decide +kernel)⟩ (kSt hE hW _) rfl rfl hl.1 rfl (lv_room (Nat.le_of_ble_eq_true rfl)) dX5_write_127 ⟨Nat.le_of_ble_eq_true rfl, Nat.le_of_ble_eq_true rfl⟩) hW (fun ad93 w94 H97 locs hp95 hW => ?_)
          obtain ⟨e5, g5, f5⟩ := hp95
          rw [e5] at hW
          have f98 := (f5 0 (by show 0 ≠ 101 + 2 * nC; omega)).trans f89
          have f99 := (f5 (24 + j) (by show 24 + j ≠ 101 + 2 * nC; omega)).trans f90
          have f100 := (f5 (tkey t) (by show 100 + 2 * t ≠ 101 + 2 * nC; omega)).trans f91
          have hL5 : AL D 4 6 nC ckey ad75 w94 := hC3.lc.keep ((f5 4 (by show _ ≠ 101 + _; omega)).trans (up_n e78 (by show _ ≠ 101 + _; omega))) ((f5 6 (by show _ ≠ 101 + _; omega)).trans (up_n e78 (by show _ ≠ 101 + _; omega))) (up_n ea77 (by show _ ≠ 101 + _; omega)) (fun i hi => up_n ea77 (by show 101 + 2 * i ≠ 101 + 2 * nC; omega))
          obtain ⟨mc8, _, _, e8, hl8, -⟩ := id hL5
          refine lv_astore (lv' := [(7, .ref (ad75 (ckey nC))), (6, .ref (ad75 (16 + k))), (5, .ref (ad75 (24 + j))), (4, .ref (ad75 (tkey t))), (0, .ref (ad75 0)), (1, .int (nI t)), (2, .int (nI j)), (3, .int x)]) hx hb dX5_write_130 hl (by decide) rfl (fun ls hl => ?_)
          refine lv_aload_n hx hb dX5_write_132 rfl (lv_at hl 4 rfl) ?_
          refine kk_get hx hb hts hown hE hW f98 rfl hiRX5 3 (by decide) (hts (.fieldLink RX5 28 "UndoCellar" "changes" "Ljava/util/ArrayList;") (by decide +kernel)) (fun _ h9 => h9) rfl dX5_write_133 ?_
          refine lv_aload hx hb dX5_write_136 (lv_at hl 0 rfl) ?_
          have hel : ∀ i, i < nC → (∃ fs, w94 (ckey i) = some (.inr (2, fs))) ∧ ckey i ≠ 7 ∧ ckey i ≠ 6 ∧ ckey i ≠ 4 := fun i hi => ⟨⟨_, (f5 (ckey i) (by show 101 + 2 * i ≠ 101 + 2 * nC; omega)).trans ((up_n e78 (by show 101 + 2 * i ≠ 101 + 2 * nC; omega)).trans (hC3.c hi))⟩, by show 101 + _ ≠ _; omega, by show 101 + _ ≠ _; omega, by show 101 + _ ≠ _; omega⟩
          refine kk_i (va_runV (As := [.ref (ad75 (ckey nC))]) (rest := []) ⟨hx, hb, hml, hown, hts⟩ (c_add l D A ad75 w94 4 6 2 nC (ckey nC) ckey _ hL5 (by omega) (by decide) (by decide) (by decide) (Or.inl rfl) hel g5 rfl ⟨by show 101 + _ ≠ _; omega, by show 101 + _ ≠ _; omega, by show 101 + _ ≠ _; omega⟩) (cwV 1 hts gX5_write_Jx4a65c_add_9ea2d rfl rfl rfl (by decide +kernel) ⟨Nat.le_of_ble_eq_true rfl, Nat.le_of_ble_eq_true rfl⟩) (kV hE hW hl8 rfl _) rfl rfl hl.1 rfl (lv_room (Nat.le_of_ble_eq_true rfl)) dX5_write_138 ⟨Nat.le_of_ble_eq_true rfl, Nat.le_of_ble_eq_true rfl⟩) hW (fun r104 ad101 w102 H105 locs hp103 hW => ?_)
          obtain ⟨e6, hL6, fw6, fa6⟩ := hp103
          refine lv_pop hx hb dX5_write_141 rfl ?_
          have a106 : ad101 (ckey nC) = ad75 (ckey nC) := fa6 (ckey nC) (by show 101 + 2 * nC ≠ 6; omega) (by show 101 + 2 * nC ≠ 7; omega)
          have a107 : ad101 (16 + k) = ad75 (16 + k) := fa6 (16 + k) (by show 16 + k ≠ 6; omega) (by show 16 + k ≠ 7; omega)
          have a108 : ad101 (24 + j) = ad75 (24 + j) := fa6 (24 + j) (by show 24 + j ≠ 6; omega) (by show 24 + j ≠ 7; omega)
          have a109 : ad101 (tkey t) = ad75 (tkey t) := fa6 (tkey t) (by show 100 + 2 * t ≠ 6; omega) (by show 100 + 2 * t ≠ 7; omega)
          have a110 : ad101 0 = ad75 0 := fa6 0 (by show 0 ≠ 6; omega) (by show 0 ≠ 7; omega)
          have a111 : ad101 1 = ad75 1 := fa6 1 (by show 1 ≠ 6; omega) (by show 1 ≠ 7; omega)
          have a112 : ad101 2 = ad75 2 := fa6 2 (by show 2 ≠ 6; omega) (by show 2 ≠ 7; omega)
          have a113 : ad101 3 = ad75 3 := fa6 3 (by show 3 ≠ 6; omega) (by show 3 ≠ 7; omega)
          have a114 : ad101 4 = ad75 4 := fa6 4 (by show 4 ≠ 6; omega) (by show 4 ≠ 7; omega)
          have a115 : ad101 (10 + j / 4) = ad75 (10 + j / 4) := fa6 (10 + j / 4) (by show 10 + j / 4 ≠ 6; omega) (by show 10 + j / 4 ≠ 7; omega)
          rw [← a106, ← a107, ← a108, ← a109, ← a110] at hl
          have f116 := (fw6 0 (by show 0 ≠ 4; omega) (by show 0 ≠ 6; omega) (by show 0 ≠ 7; omega)).trans f98
          rw [← a111, ← a112, ← a113, ← a114] at f116
          have f117 := (fw6 (24 + j) (by show 24 + j ≠ 4; omega) (by show 24 + j ≠ 6; omega) (by show 24 + j ≠ 7; omega)).trans f99
          rw [← a115] at f117
          have f118 := (fw6 (tkey t) (by show 100 + 2 * t ≠ 4; omega) (by show 100 + 2 * t ≠ 6; omega) (by show 100 + 2 * t ≠ 7; omega)).trans f100
          have f119 := (fw6 (ckey nC) (by show 101 + 2 * nC ≠ 4; omega) (by show 101 + 2 * nC ≠ 6; omega) (by show 101 + 2 * nC ≠ 7; omega)).trans g5
          rw [← a109, ← a108] at f119
          refine lv_aload hx hb dX5_write_142 (lv_at hl 0 rfl) ?_
          refine lv_iload_n hx hb dX5_write_144 rfl (lv_at hl 7 rfl) ?_
          refine kk_v (va_runVN (As := [.int x]) (rest := []) ⟨hx, hb, hml, hown, hts⟩ (k_X1_make l D A ad101 w102 (ckey nC) (24 + j) (tkey t) (10 + j / 4) _ _ _ x _ _ _ _ _ (by show 24 + j ≠ 100 + 2 * t; omega) (by show 101 + 2 * nC ≠ 24 + j; omega) (by show 101 + 2 * nC ≠ 100 + 2 * t; omega) f119 f117 f118) ⟨va_cnB 1 hts gX5_write_X1_make_n134 rfl rfl rfl (hE.N 21 rfl) (hts (.initialized RX1) (by decide +kernel)) (by decide +kernel) ⟨Nat.le_of_ble_eq_true rfl, Nat.le_of_ble_eq_true rfl⟩, hts (.instanceMethod yX1_make) (by decide +kernel), hts (.selects RX1 yX1_make yX1_make) (by decide +kernel)⟩ (kV hE hW f119 rfl _) rfl rfl hl.1 rfl (lv_room (Nat.le_of_ble_eq_true rfl)) dX5_write_145 ⟨Nat.le_of_ble_eq_true rfl, Nat.le_of_ble_eq_true rfl⟩) hW (fun ad120 w121 H124 locs hp122 hW => ?_)
          obtain ⟨e7, e8w⟩ := hp122
          rw [e7] at hW
          have h7n : ∀ q, q ≠ 24 + j → q ≠ tkey t → w121 q = w102 q := fun q a b => by rw [e8w, va_up_ne _ _ b, va_up_ne _ _ a]
          have h7r : w121 (24 + j) = some (.inr (3, [.ref (ad101 (10 + j / 4)), .int x])) := by rw [e8w, va_up_ne _ _ (show 24 + j ≠ 100 + 2 * t by omega), va_up_self]
          have h7t := (congrFun e8w (tkey t)).trans (va_up_self _ _ _)
          have h7c := (h7n (ckey nC) (by show 101 + _ ≠ _; omega) (by show 101 + 2 * nC ≠ 100 + 2 * t; omega)).trans f119
          refine lv_aload hx hb dX5_write_148 (lv_at hl 0 rfl) ?_
          refine kk_getN hx hb hts hown hE hW h7c rfl hiRX1 2 (by decide) (hE.N 16 rfl) (fun _ h9 => h9) rfl dX5_write_150 ?_
          have fwA : ∀ q, q ≠ 4 → q ≠ 6 → q ≠ 7 → q ≠ ckey nC → q ≠ 24 + j → q ≠ tkey t → w121 q = w62 q := fun q a b c d e f => (h7n q e f).trans ((fw6 q a b c).trans ((f5 q d).trans (up_n e78 d)))
          have faA : ∀ q, q ≠ 6 → q ≠ 7 → q ≠ ckey nC → ad101 q = ad q := fun q a b c => (fa6 q a b).trans (up_n ea77 c)
          have hC9 := hC3.wr (ad' := ad101) (w' := w121) (v := x) hN3 ht hj (hL6.keep (h7n 4 (by omega) (by show _ ≠ 100 + _; omega)) (h7n 6 (by omega) (by show _ ≠ 100 + _; omega)) rfl (fun _ _ => rfl)) h7c h7r h7t fwA faA
          have hF9 : FrC ad w ad101 w121 := fun q hq => ⟨(fwA q (by omega) (by omega) (by omega) (by show q ≠ 101 + 2 * nC; omega) (by omega) (by show q ≠ 100 + 2 * t; omega)).trans ((hF1.tr hF2) q hq).1, faA q (by omega) (by omega) (by show q ≠ 101 + 2 * nC; omega)⟩
          have n0j : (wr3 S (j / 4) k (nI t) (nI 0)) 0 j = S 0 j := congrFun n0 j
          exact vx_ret (ke_i hx hb hr hlocks (Nat.le_of_ble_eq_true rfl) (Nat.le_of_ble_eq_true rfl) dX5_write_153 hW (⟨by rw [nj]; exact n0j, hK0, by rw [wrM_eq hN.2.1 (by omega) hj hk hk6 hx9]; rw [n0j] at hC9; exact hC9, faA 0 (by decide) (by decide) (by show 0 ≠ 101 + 2 * nC; omega), hF9⟩))
        · obtain ⟨hf1, hf2⟩ := bI_t c74
          rw [n10, n13, n14, hnum, h10] at hf2
          have hff : nC - nD = nZ := by
            rcases Nat.lt_or_ge (nC - nD) nZ with h | h
            · exact absurd hf2 (nI_ge h (by omega))
            · omega
          have hx9 : bI (S 13 0 - S 14 0 = S 10 0) = nI 1 := bI_1 (by rw [hnum, h10, hff])
          refine lv_aload_n hx hb dX5_write_104 rfl (lv_at hl 3 rfl) ?_
          refine lv_dup hx hb dX5_write_105 rfl ?_
          refine kk_get hx hb hts hown hE hW hC2.u rfl hiRX5 7 (by decide) (hts (.fieldLink RX5 41 "UndoCellar" "droppedSoFar" "I") (by decide +kernel)) (fun _ h9 => h9) rfl dX5_write_106 ?_
          refine lv_iconst (v := 1) hx hb dX5_write_109 (by decide) ?_
          refine lv_iadd hx hb dX5_write_110 ?_
          refine kk_put hx hb hts hown hE hW hC2.u rfl hiRX5 tyX5 tyX5_ok nmX5 7 (by decide) (hts (.fieldLink RX5 41 "UndoCellar" "droppedSoFar" "I") (by decide +kernel)) (fun _ h9 => h9) rfl (ty := tyX5 7) (tyX5_ok 7 (by decide)) rfl rfl (Nat.le_of_ble_eq_true rfl) dX5_write_111 (fun H127 locs w125 e126 hW => ?_)
          have f128 := up_s e126
          have hC3 : CW D (wr3 S (j / 4) k (nI t) (nI 1)) ad w125 nT nC := hC2.upU (S' := wr3 S (j / 4) k (nI t) (nI 1)) (e126.trans (by
            show va_up _ _ (some (.inr (6, [.ref (ad 1), .ref (ad 2), .ref (ad 3), .ref (ad 4), .int (wr2 S (j / 4) k (nI t) 10 0), .int (wr2 S (j / 4) k (nI t) 11 0), .int (wr2 S (j / 4) k (nI t) 15 0), .int (wr2 S (j / 4) k (nI t) 14 0 + 1)])) : Option va_E) = va_up _ _ (some (.inr (6, [.ref (ad 1), .ref (ad 2), .ref (ad 3), .ref (ad 4), .int (wr2 S (j / 4) k (nI t) 10 0), .int (wr2 S (j / 4) k (nI t) 11 0), .int (wr2 S (j / 4) k (nI t) 15 0), .int (S 14 0 + nI 1)])) : Option va_E)
            rw [n14]
            rfl)) (fun c h => sU_n (by omega))
          have hN3 : SN (wr3 S (j / 4) k (nI t) (nI 1)) nT nC (nD + 1) nM nZ := by
            have := hN2.dr (d := 1) (by omega)
            rw [show wr2 S (j / 4) k (nI t) 14 0 = S 14 0 by rw [n14]] at this
            exact this
          have hF2 := hF2.up e126 (by omega)
          have g0 : w125 (0) = some (.inr (6, [.ref (ad 1), .ref (ad 2), .ref (ad 3), .ref (ad 4), .int ((wr3 S (j / 4) k (nI t) (nI 1)) 10 0), .int ((wr3 S (j / 4) k (nI t) (nI 1)) 11 0), .int ((wr3 S (j / 4) k (nI t) (nI 1)) 15 0), .int ((wr3 S (j / 4) k (nI t) (nI 1)) 14 0)])) := hC3.u
          have gr : w125 (24 + j) = some (.inr (3, [.ref (ad (10 + j / 4)), .int ((wr3 S (j / 4) k (nI t) (nI 1)) 0 j)])) := hC3.r hj
          have gt : w125 (tkey t) = some (.inr (5, [.int (nI t), .int ((wr3 S (j / 4) k (nI t) (nI 1)) 2 t), .int (bI ((wr3 S (j / 4) k (nI t) (nI 1)) 1 t = 0)), .int (if (wr3 S (j / 4) k (nI t) (nI 1)) 1 t = 1 then (wr3 S (j / 4) k (nI t) (nI 1)) 3 t else -1), .int (stL (wr3 S (j / 4) k (nI t) (nI 1)) (nI t) nC)])) := hC3.t ht
          refine kk_new (ci := 2) hx hb hts hown hE hW (ckey nC) rfl hiRX1 tyX1 tyX1_ok (hts (.classLink RX5 126 RX1) (by decide +kernel)) (hts (.instantiable RX1 4) (by decide +kernel)) (hts (.initialized RX1) (by decide +kernel)) (fs := [.null, .null, .int 0, .int 0]) (by intro j hj; match j, hj with | 0, _ => rfl | 1, _ => rfl | 2, _ => rfl | 3, _ => rfl) (Nat.le_of_ble_eq_true rfl) (Nat.le_of_ble_eq_true rfl) dX5_write_114 (fun H133 ad129 w130 ea131 e132 hW => ?_)
          have a134 : ad129 (16 + k) = ad (16 + k) := up_n ea131 (by show 16 + k ≠ 101 + 2 * nC; omega)
          have a135 : ad129 (24 + j) = ad (24 + j) := up_n ea131 (by show 24 + j ≠ 101 + 2 * nC; omega)
          have a136 : ad129 (tkey t) = ad (tkey t) := up_n ea131 (by show 100 + 2 * t ≠ 101 + 2 * nC; omega)
          have a137 : ad129 0 = ad 0 := up_n ea131 (by show 0 ≠ 101 + 2 * nC; omega)
          have a138 : ad129 1 = ad 1 := up_n ea131 (by show 1 ≠ 101 + 2 * nC; omega)
          have a139 : ad129 2 = ad 2 := up_n ea131 (by show 2 ≠ 101 + 2 * nC; omega)
          have a140 : ad129 3 = ad 3 := up_n ea131 (by show 3 ≠ 101 + 2 * nC; omega)
          have a141 : ad129 4 = ad 4 := up_n ea131 (by show 4 ≠ 101 + 2 * nC; omega)
          have a142 : ad129 (10 + j / 4) = ad (10 + j / 4) := up_n ea131 (by show 10 + j / 4 ≠ 101 + 2 * nC; omega)
          rw [← a134, ← a135, ← a136, ← a137] at hl
          have f143 := (up_n e132 (by show 0 ≠ 101 + 2 * nC; omega)).trans g0
          rw [← a138, ← a139, ← a140, ← a141] at f143
          have f144 := (up_n e132 (by show 24 + j ≠ 101 + 2 * nC; omega)).trans gr
          rw [← a142] at f144
          have f145 := (up_n e132 (by show 100 + 2 * t ≠ 101 + 2 * nC; omega)).trans gt
          have g146 := up_s e132
          refine lv_dup hx hb dX5_write_117 rfl ?_
          refine lv_aload hx hb dX5_write_118 (lv_at hl 2 rfl) ?_
          refine lv_aload hx hb dX5_write_120 (lv_at hl 1 rfl) ?_
          refine lv_aload hx hb dX5_write_122 (lv_at hl 1 rfl) ?_
          refine kk_getN hx hb hts hown hE hW f144 rfl hiRX2 1 (by decide) (hE.N 7 rfl) (fun _ h9 => h9) rfl dX5_write_124 ?_
          refine kk_v (va_runIN (As := [.ref (ad129 (tkey t)), .ref (ad129 (24 + j)), .int ((wr3 S (j / 4) k (nI t) (nI 1)) 0 j)]) (rest := [.ref (ad129 (ckey nC))]) ⟨hx, hb, hml, hown, hts⟩ (k_X1_init l D A ad129 w130 (ckey nC) (tkey t) (24 + j) ((wr3 S (j / 4) k (nI t) (nI 1)) 0 j) g146) ⟨va_cnB 3 hts gX5_write_X1_init_n131 rfl rfl rfl (hE.N 20 rfl) (hts (.initialized RX1) (by decide +kernel)) (by decide +kernel) ⟨Nat.le_of_ble_eq_true rfl, Nat.le_of_ble_eq_true rfl⟩, rfl, hts (.instanceMethod yX1_init) (by decide +kernel)⟩ (kSt hE hW _) rfl rfl hl.1 rfl (lv_room (Nat.le_of_ble_eq_true rfl)) dX5_write_127 ⟨Nat.le_of_ble_eq_true rfl, Nat.le_of_ble_eq_true rfl⟩) hW (fun ad147 w148 H151 locs hp149 hW => ?_)
          obtain ⟨e5, g5, f5⟩ := hp149
          rw [e5] at hW
          have f152 := (f5 0 (by show 0 ≠ 101 + 2 * nC; omega)).trans f143
          have f153 := (f5 (24 + j) (by show 24 + j ≠ 101 + 2 * nC; omega)).trans f144
          have f154 := (f5 (tkey t) (by show 100 + 2 * t ≠ 101 + 2 * nC; omega)).trans f145
          have hL5 : AL D 4 6 nC ckey ad129 w148 := hC3.lc.keep ((f5 4 (by show _ ≠ 101 + _; omega)).trans (up_n e132 (by show _ ≠ 101 + _; omega))) ((f5 6 (by show _ ≠ 101 + _; omega)).trans (up_n e132 (by show _ ≠ 101 + _; omega))) (up_n ea131 (by show _ ≠ 101 + _; omega)) (fun i hi => up_n ea131 (by show 101 + 2 * i ≠ 101 + 2 * nC; omega))
          obtain ⟨mc8, _, _, e8, hl8, -⟩ := id hL5
          refine lv_astore (lv' := [(7, .ref (ad129 (ckey nC))), (6, .ref (ad129 (16 + k))), (5, .ref (ad129 (24 + j))), (4, .ref (ad129 (tkey t))), (0, .ref (ad129 0)), (1, .int (nI t)), (2, .int (nI j)), (3, .int x)]) hx hb dX5_write_130 hl (by decide) rfl (fun ls hl => ?_)
          refine lv_aload_n hx hb dX5_write_132 rfl (lv_at hl 4 rfl) ?_
          refine kk_get hx hb hts hown hE hW f152 rfl hiRX5 3 (by decide) (hts (.fieldLink RX5 28 "UndoCellar" "changes" "Ljava/util/ArrayList;") (by decide +kernel)) (fun _ h9 => h9) rfl dX5_write_133 ?_
          refine lv_aload hx hb dX5_write_136 (lv_at hl 0 rfl) ?_
          have hel : ∀ i, i < nC → (∃ fs, w148 (ckey i) = some (.inr (2, fs))) ∧ ckey i ≠ 7 ∧ ckey i ≠ 6 ∧ ckey i ≠ 4 := fun i hi => ⟨⟨_, (f5 (ckey i) (by show 101 + 2 * i ≠ 101 + 2 * nC; omega)).trans ((up_n e132 (by show 101 + 2 * i ≠ 101 + 2 * nC; omega)).trans (hC3.c hi))⟩, by show 101 + _ ≠ _; omega, by show 101 + _ ≠ _; omega, by show 101 + _ ≠ _; omega⟩
          refine kk_i (va_runV (As := [.ref (ad129 (ckey nC))]) (rest := []) ⟨hx, hb, hml, hown, hts⟩ (c_add l D A ad129 w148 4 6 2 nC (ckey nC) ckey _ hL5 (by omega) (by decide) (by decide) (by decide) (Or.inl rfl) hel g5 rfl ⟨by show 101 + _ ≠ _; omega, by show 101 + _ ≠ _; omega, by show 101 + _ ≠ _; omega⟩) (cwV 1 hts gX5_write_Jx4a65c_add_9ea2d rfl rfl rfl (by decide +kernel) ⟨Nat.le_of_ble_eq_true rfl, Nat.le_of_ble_eq_true rfl⟩) (kV hE hW hl8 rfl _) rfl rfl hl.1 rfl (lv_room (Nat.le_of_ble_eq_true rfl)) dX5_write_138 ⟨Nat.le_of_ble_eq_true rfl, Nat.le_of_ble_eq_true rfl⟩) hW (fun r158 ad155 w156 H159 locs hp157 hW => ?_)
          obtain ⟨e6, hL6, fw6, fa6⟩ := hp157
          refine lv_pop hx hb dX5_write_141 rfl ?_
          have a160 : ad155 (ckey nC) = ad129 (ckey nC) := fa6 (ckey nC) (by show 101 + 2 * nC ≠ 6; omega) (by show 101 + 2 * nC ≠ 7; omega)
          have a161 : ad155 (16 + k) = ad129 (16 + k) := fa6 (16 + k) (by show 16 + k ≠ 6; omega) (by show 16 + k ≠ 7; omega)
          have a162 : ad155 (24 + j) = ad129 (24 + j) := fa6 (24 + j) (by show 24 + j ≠ 6; omega) (by show 24 + j ≠ 7; omega)
          have a163 : ad155 (tkey t) = ad129 (tkey t) := fa6 (tkey t) (by show 100 + 2 * t ≠ 6; omega) (by show 100 + 2 * t ≠ 7; omega)
          have a164 : ad155 0 = ad129 0 := fa6 0 (by show 0 ≠ 6; omega) (by show 0 ≠ 7; omega)
          have a165 : ad155 1 = ad129 1 := fa6 1 (by show 1 ≠ 6; omega) (by show 1 ≠ 7; omega)
          have a166 : ad155 2 = ad129 2 := fa6 2 (by show 2 ≠ 6; omega) (by show 2 ≠ 7; omega)
          have a167 : ad155 3 = ad129 3 := fa6 3 (by show 3 ≠ 6; omega) (by show 3 ≠ 7; omega)
          have a168 : ad155 4 = ad129 4 := fa6 4 (by show 4 ≠ 6; omega) (by show 4 ≠ 7; omega)
          have a169 : ad155 (10 + j / 4) = ad129 (10 + j / 4) := fa6 (10 + j / 4) (by show 10 + j / 4 ≠ 6; omega) (by show 10 + j / 4 ≠ 7; omega)
          rw [← a160, ← a161, ← a162, ← a163, ← a164] at hl
          have f170 := (fw6 0 (by show 0 ≠ 4; omega) (by show 0 ≠ 6; omega) (by show 0 ≠ 7; omega)).trans f152
          rw [← a165, ← a166, ← a167, ← a168] at f170
          have f171 := (fw6 (24 + j) (by show 24 + j ≠ 4; omega) (by show 24 + j ≠ 6; omega) (by show 24 + j ≠ 7; omega)).trans f153
          rw [← a169] at f171
          have f172 := (fw6 (tkey t) (by show 100 + 2 * t ≠ 4; omega) (by show 100 + 2 * t ≠ 6; omega) (by show 100 + 2 * t ≠ 7; omega)).trans f154
          have f173 := (fw6 (ckey nC) (by show 101 + 2 * nC ≠ 4; omega) (by show 101 + 2 * nC ≠ 6; omega) (by show 101 + 2 * nC ≠ 7; omega)).trans g5
          rw [← a163, ← a162] at f173
          refine lv_aload hx hb dX5_write_142 (lv_at hl 0 rfl) ?_
          refine lv_iload_n hx hb dX5_write_144 rfl (lv_at hl 7 rfl) ?_
          refine kk_v (va_runVN (As := [.int x]) (rest := []) ⟨hx, hb, hml, hown, hts⟩ (k_X1_make l D A ad155 w156 (ckey nC) (24 + j) (tkey t) (10 + j / 4) _ _ _ x _ _ _ _ _ (by show 24 + j ≠ 100 + 2 * t; omega) (by show 101 + 2 * nC ≠ 24 + j; omega) (by show 101 + 2 * nC ≠ 100 + 2 * t; omega) f173 f171 f172) ⟨va_cnB 1 hts gX5_write_X1_make_n134 rfl rfl rfl (hE.N 21 rfl) (hts (.initialized RX1) (by decide +kernel)) (by decide +kernel) ⟨Nat.le_of_ble_eq_true rfl, Nat.le_of_ble_eq_true rfl⟩, hts (.instanceMethod yX1_make) (by decide +kernel), hts (.selects RX1 yX1_make yX1_make) (by decide +kernel)⟩ (kV hE hW f173 rfl _) rfl rfl hl.1 rfl (lv_room (Nat.le_of_ble_eq_true rfl)) dX5_write_145 ⟨Nat.le_of_ble_eq_true rfl, Nat.le_of_ble_eq_true rfl⟩) hW (fun ad174 w175 H178 locs hp176 hW => ?_)
          obtain ⟨e7, e8w⟩ := hp176
          rw [e7] at hW
          have h7n : ∀ q, q ≠ 24 + j → q ≠ tkey t → w175 q = w156 q := fun q a b => by rw [e8w, va_up_ne _ _ b, va_up_ne _ _ a]
          have h7r : w175 (24 + j) = some (.inr (3, [.ref (ad155 (10 + j / 4)), .int x])) := by rw [e8w, va_up_ne _ _ (show 24 + j ≠ 100 + 2 * t by omega), va_up_self]
          have h7t := (congrFun e8w (tkey t)).trans (va_up_self _ _ _)
          have h7c := (h7n (ckey nC) (by show 101 + _ ≠ _; omega) (by show 101 + 2 * nC ≠ 100 + 2 * t; omega)).trans f173
          refine lv_aload hx hb dX5_write_148 (lv_at hl 0 rfl) ?_
          refine kk_getN hx hb hts hown hE hW h7c rfl hiRX1 2 (by decide) (hE.N 16 rfl) (fun _ h9 => h9) rfl dX5_write_150 ?_
          have fwA : ∀ q, q ≠ 4 → q ≠ 6 → q ≠ 7 → q ≠ ckey nC → q ≠ 24 + j → q ≠ tkey t → w175 q = w125 q := fun q a b c d e f => (h7n q e f).trans ((fw6 q a b c).trans ((f5 q d).trans (up_n e132 d)))
          have faA : ∀ q, q ≠ 6 → q ≠ 7 → q ≠ ckey nC → ad155 q = ad q := fun q a b c => (fa6 q a b).trans (up_n ea131 c)
          have hC9 := hC3.wr (ad' := ad155) (w' := w175) (v := x) hN3 ht hj (hL6.keep (h7n 4 (by omega) (by show _ ≠ 100 + _; omega)) (h7n 6 (by omega) (by show _ ≠ 100 + _; omega)) rfl (fun _ _ => rfl)) h7c h7r h7t fwA faA
          have hF9 : FrC ad w ad155 w175 := fun q hq => ⟨(fwA q (by omega) (by omega) (by omega) (by show q ≠ 101 + 2 * nC; omega) (by omega) (by show q ≠ 100 + 2 * t; omega)).trans ((hF1.tr hF2) q hq).1, faA q (by omega) (by omega) (by show q ≠ 101 + 2 * nC; omega)⟩
          have n0j : (wr3 S (j / 4) k (nI t) (nI 1)) 0 j = S 0 j := congrFun n0 j
          exact vx_ret (ke_i hx hb hr hlocks (Nat.le_of_ble_eq_true rfl) (Nat.le_of_ble_eq_true rfl) dX5_write_153 hW (⟨by rw [nj]; exact n0j, hK0, by rw [wrM_eq hN.2.1 (by omega) hj hk hk6 hx9]; rw [n0j] at hC9; exact hC9, faA 0 (by decide) (by decide) (by show 0 ≠ 101 + 2 * nC; omega), hF9⟩))
    · exact kk_throw kf_IA hx hb hnt hown (fun w h => hts w (List.mem_cons_of_mem _ (List.mem_append_left _ (List.mem_append_left _ (List.mem_append_right _ h))))) (hts (.classLink RX5 48 "java/lang/IllegalArgumentException") (by decide +kernel)) (hts (.initialized "java/lang/IllegalArgumentException") (by decide +kernel)) hE hW (hl.1.trans hml.symm) (hE.R 3 rfl) dX5_write_26 dX5_write_29 dX5_write_30 dX5_write_32 dX5_write_35 hout ⟨Nat.le_of_ble_eq_true rfl, Nat.le_of_ble_eq_true rfl, Nat.le_of_ble_eq_true rfl, Nat.le_of_ble_eq_true rfl⟩ hlocks (Or.inr (Or.inl ⟨rfl, wrK_2 ⟨qt, qj⟩ (fun z => z.2 (Int32.not_le.mp c20))⟩)) (Nat.le_of_ble_eq_true rfl) (Nat.le_of_ble_eq_true rfl)

