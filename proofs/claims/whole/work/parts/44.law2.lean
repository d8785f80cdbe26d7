/-! the law's calls, one by one -/
theorem lg_self (x : Int64) : lg_cmp x x = 0 := by simp [lg_cmp]
section K17
variable {S : St}
theorem ss17 {z : Int32} : (ssN S z) 17 0 = ssK S z := by
  by_cases h : ssK S z = 0
  · rw [show ssN S z = _ from if_pos h]; rfl
  · rw [show ssN S z = _ from if_neg h]; rfl
theorem bg17 : (bgN S) 17 0 = bgK S := by
  by_cases h : bgK S = 0
  · rw [show bgN S = _ from if_pos h]; rfl
  · rw [show bgN S = _ from if_neg h]; rfl
theorem wr17 {t r v : Int32} : (wrN S t r v) 17 0 = wrK S t r v := by
  by_cases h : wrK S t r v = 0
  · rw [show wrN S t r v = _ from if_pos h]; exact wrM_17
  · rw [show wrN S t r v = _ from if_neg h]; rfl
theorem ut17 {t k : Int32} : (utN S t k) 17 0 = utK S t k := by
  by_cases h : utK S t k = 0
  · rw [show utN S t k = _ from if_pos h]; exact unS_17
  · rw [show utN S t k = _ from if_neg h]; rfl
theorem ud17 {t : Int32} : (udN S t) 17 0 = opK S t := by
  by_cases h : opK S t = 0
  · rw [show udN S t = _ from if_pos h]; exact unS_17
  · rw [show udN S t = _ from if_neg h]; rfl
theorem cm17 {t : Int32} : (cmN S t) 17 0 = opK S t := by
  by_cases h : opK S t = 0
  · rw [show cmN S t = _ from if_pos h]; rfl
  · rw [show cmN S t = _ from if_neg h]; rfl
theorem vr17 {m r : Int32} : (vrN S m r) 17 0 = vrK S m r := by
  by_cases h : vrK S m r = 0
  · rw [show vrN S m r = _ from if_pos h]; rfl
  · rw [show vrN S m r = _ from if_neg h]; rfl
theorem rd17 {m r t k0 : Int32} : (rdN S m r t k0) 17 0 = rdK S m r t k0 := by
  by_cases h : k0 = 0
  · by_cases h2 : (vaV (sS S 17 0) m r t).2 = 0
    · rw [rdN_0 h h2, rdK_0 h h2, cleanS_17]; rfl
    · rw [rdN_3 h h2, rdK_3 h h2]; rfl
  · rw [rdN_n h, rdK_n h]; rfl
theorem no17 {x : Int32} : (sS S 17 x) 17 0 = x := rfl
end K17
/-- before the call number q -/
def LI (D : va_G) (A : Nat → Prop) (s : State) (q : Nat) (S : St) (ad : Nat → Nat) (w : kWd) (H : Heap) (locs : List Loc) : Prop := ∃ (nT nC nD nM nZ : Nat) (fo : Nat → Int64), CW D S ad w nT nC ∧ SN S nT nC nD nM nZ ∧ nC ≤ q ∧ nM ≤ q ∧ MW D S ad w w ∧ w 2100 = some (.inl (D.1 102, 1, .inr (.inl fo))) ∧ kS D A s.heap ad w H locs
/-- the law stands behind the call number q -/
def LK (p : Program) (l : Launch) (e : Env) (s : State) (m : MethodId) (below : List Frame) (meth : Method) (c : Code) (b : Nat) (D : va_G) (A : Nat → Prop) (q C T pc : Nat) : Prop := ∀ (S' : St) (ad' : Nat → Nat) (w' : kWd) (H' : Heap) (locs' : List Loc), LI D A s (q + 1) S' ad' w' H' locs' → ∀ ls : Array Slot, lv_has ls 7 [(4, .int (nI (4 * q))), (0, .ref b), (1, .ref (ad' 0)), (2, .ref (ad' 2000)), (3, .ref (ad' 2100))] → W p l e room_1 s m #[Value.ref b] below meth c H' locs' (C + 10) (T + 2100) (lw_Z below #[Value.ref b] s) (F0 m pc ls [])
set_option maxHeartbeats 4000000 in
set_option maxRecDepth 100000 in
theorem law_setSpace {p : Program} {l : Launch} {e : Env} {s : State} {m : MethodId} {below : List Frame} {meth : Method} {c : Code} {b L : Nat} {xs : Nat → Int32} (hnt : l.stackTraces = false) (C0 : lw_At p s m meth c b L xs) {D : va_G} (hE : kE D (fun q : Nat => s.heap.size ≤ q) s) {q C T : Nat} (hq : 4 * q + 4 ≤ L) (hL : L ≤ 2048) (hCb : C + 10 ≤ 601024) (hTb : T + 2100 ≤ 7293033) {S : St} {ad : Nat → Nat} {w : kWd} {H : Heap} {locs : List Loc} (hI : LI D (fun q : Nat => s.heap.size ≤ q) s q S ad w H locs) (K : LK p l e s m below meth c b D (fun q : Nat => s.heap.size ≤ q) q C T 1068) {ls : Array Slot} (hl : lv_has ls 7 [(4, .int (nI (4 * q))), (0, .ref b), (1, .ref (ad 0)), (2, .ref (ad 2000)), (3, .ref (ad 2100))]) : W p l e room_1 s m #[Value.ref b] below meth c H locs (C) (T) (lw_Z below #[Value.ref b] s) (F0 m 128 ls []) := by
  obtain ⟨hx, hb, hr, hml, hown0, hts0, hX, hbl, hlocks, hgv⟩ := id C0
  have hbA : ¬ (fun q : Nat => s.heap.size ≤ q) b := Nat.not_le.mpr hbl
  have hown : s.vm.findClass RL = some m.cls := hown0
  have hts : ∀ w ∈ wsL_law, w.before #[Value.ref b] s = true := fun w h => hts0 w (wsL_law_in w h)
  obtain ⟨nT, nC, nD, nM, nZ, fo, hC, hN, hnC, hnM, hM, ho, hW⟩ := hI
  have h60 := hN.2.2.2.2.2.1
  have h512 := hN.2.2.2.2.2.2.1
  have hd := hN.2.2.2.2.2.2.2.1
  have hz1 := hN.2.2.2.2.2.2.2.2.2.1
  have hz30 := hN.2.2.2.2.2.2.2.2.2.2.1
  have hby : ∀ k, k < nC → vp_in (S 4 k) 60 := fun k hk => by obtain ⟨t, ht, h4⟩ := hN.by hk; rw [h4]; exact vp_in_nI (by omega) (by decide)
  have hro : ∀ k, k < nC → vp_in (S 5 k) 12 := fun k hk => by obtain ⟨t, ht, h4⟩ := hN.ro hk; rw [h4]; exact vp_in_nI (by omega) (by decide)
  have hsl : ∀ k, k < 6 → S 8 k ≠ -1 → vp_in (S 8 k) 60 := fun k hk h => by
    rcases hN.sl hk with h8 | ⟨t, ht, h8⟩
    · exact absurd h8 h
    · rw [h8]; exact vp_in_nI (by omega) (by decide)
  refine lv_aload_n hx hb dL_law_128 rfl (lv_at hl 2 rfl) ?_
  refine lv_aload_n hx hb dL_law_129 rfl (lv_at hl 1 rfl) ?_
  refine lv_iload hx hb dL_law_130 (lv_at hl 0 rfl) ?_
  refine lv_iconst (v := 1) hx hb dL_law_132 (by decide) ?_
  refine lv_iadd hx hb dL_law_133 ?_
  rw [show nI (4 * q) + 1 = nI (4 * q + 1) from nI_add _ 1]
  refine va_sld hx hb hX hbl hbA hW.2.2.1 (vp_in_nI (show 4 * q + 1 < L by omega) (by omega)) dL_law_134 ?_
  rw [nI_clamp (show 4 * q + 1 < 2 ^ 31 by omega)]
  refine lv_aload_n hx hb dL_law_135 rfl (lv_at hl 4 rfl) ?_
  refine kk_i (vx_runSW (As := [.ref (ad 0), .int (xs (4 * q + 1)), .ref (ad 2100)]) (rest := []) ⟨hx, hb, hml, hown, hts⟩ (k_L_setSpace l hnt D _ ad w S nT nC nD nM nZ hC hN fo ho (xs (4 * q + 1))) (vx_cwSW 3 hts gL_law_L_setSpace rfl rfl rfl (by decide +kernel) ⟨Nat.le_of_ble_eq_true rfl, Nat.le_of_ble_eq_true rfl⟩) (kSt hE hW _) rfl rfl hl.1 rfl (lv_room (Nat.le_of_ble_eq_true rfl)) dL_law_136 ⟨show C + 8 ≤ 601024 by omega, show T + 60 ≤ 7293033 by omega⟩) hW (fun r4 ad1 w2 H5 locs hp3 hW => ?_)
  obtain ⟨e1, ⟨nT1, nC1, nD1, nM1, nZ1, hC1, hN1, hc1, hm1⟩, ⟨f1, ho1, hf1⟩, hw1, ha1, h01⟩ := hp3
  subst e1
  have a6 : ad1 0 = ad 0 := h01
  have a7 : ad1 2000 = ad 2000 := ha1 2000 (by decide)
  have a8 : ad1 2100 = ad 2100 := ha1 2100 (by decide)
  rw [← a6, ← a7, ← a8] at hl
  have hM1 : MW D S ad1 w2 w2 := hM.mv (fun k a b => hw1 k a (by omega)) (fun k a b => ha1 k a)
  refine lv_istore (lv' := [(5, .int (ssK S (xs (4 * q + 1)))), (4, .int (nI (4 * q))), (0, .ref b), (1, .ref (ad1 0)), (2, .ref (ad1 2000)), (3, .ref (ad1 2100))]) hx hb dL_law_139 hl (by decide) rfl (fun ls hl => ?_)
  refine lv_aload_n hx hb dL_law_141 rfl (lv_at hl 4 rfl) ?_
  refine lv_aload_n hx hb dL_law_142 rfl (lv_at hl 2 rfl) ?_
  refine lv_iload hx hb dL_law_143 (lv_at hl 1 rfl) ?_
  refine lv_iconst (v := 1) hx hb dL_law_145 (by decide) ?_
  refine lv_iadd hx hb dL_law_146 ?_
  rw [show nI (4 * q) + 1 = nI (4 * q + 1) from nI_add _ 1]
  refine va_sld hx hb hX hbl hbA hW.2.2.1 (vp_in_nI (show 4 * q + 1 < L by omega) (by omega)) dL_law_147 ?_
  rw [nI_clamp (show 4 * q + 1 < 2 ^ 31 by omega)]
  refine kk_i (va_runV (As := [.int (xs (4 * q + 1))]) (rest := []) ⟨hx, hb, hml, hown, hts⟩ (c_setSpace l D _ ad1 w2 S hM1 (xs (4 * q + 1)) ) (cwV 1 hts gL_law_X6_setSpace rfl rfl rfl (by decide +kernel) ⟨Nat.le_of_ble_eq_true rfl, Nat.le_of_ble_eq_true rfl⟩) (kV hE hW hM1.o rfl _) rfl rfl hl.1 rfl (lv_room (Nat.le_of_ble_eq_true rfl)) dL_law_148 ⟨show C + 8 ≤ 601024 by omega, show T + 60 ≤ 7293033 by omega⟩) hW (fun r12 ad9 w10 H13 locs hp11 hW => ?_)
  obtain ⟨e2, e3, hM2⟩ := hp11
  rw [e3] at hW
  subst e2
  have ho2 : w10 2100 = _ := (hM2.fr 2100 (by omega)).trans ho1
  refine lv_istore (lv' := [(6, .int (ssR S (xs (4 * q + 1)))), (5, .int (ssK S (xs (4 * q + 1)))), (4, .int (nI (4 * q))), (0, .ref b), (1, .ref (ad1 0)), (2, .ref (ad1 2000)), (3, .ref (ad1 2100))]) hx hb dL_law_151 hl (by decide) rfl (fun ls hl => ?_)
  refine lv_aload_n hx hb dL_law_153 rfl (lv_at hl 5 rfl) ?_
  refine kk_i (va_runV (As := []) (rest := []) ⟨hx, hb, hml, hown, hts⟩ (c_thrown l D _ ad1 w10 (ssN S (xs (4 * q + 1))) hM2.re) (cwV 0 hts gL_law_X6_thrown rfl rfl rfl (by decide +kernel) ⟨Nat.le_of_ble_eq_true rfl, Nat.le_of_ble_eq_true rfl⟩) (kV hE hW hM2.o rfl _) rfl rfl hl.1 rfl (lv_room (Nat.le_of_ble_eq_true rfl)) dL_law_154 ⟨show C + 8 ≤ 601024 by omega, show T + 60 ≤ 7293033 by omega⟩) hW (fun r17 ad14 w15 H18 locs hp16 hW => ?_)
  obtain ⟨e4, e5, e6⟩ := hp16
  rw [e5, e6] at hW
  subst e4
  rw [show (ssN S (xs (4 * q + 1))) 17 0 = ssK S (xs (4 * q + 1)) from ss17]
  refine lv_iload hx hb dL_law_157 (lv_at hl 1 rfl) ?_
  refine lv_icmp_eq (tgt := 164) hx hb dL_law_159 (by decide) (fun _ => ?_) (fun c9 => absurd (rfl) c9)
  refine lv_iload hx hb dL_law_164 (lv_at hl 1 rfl) ?_
  refine lv_if_ne (tgt := 181) hx hb dL_law_166 (by decide) (fun c19 => ?_) (fun c19 => ?_)
  · refine lv_goto (tgt := 1068) hx hb dL_law_181 (by decide) ?_
    refine W.widen (k := C + 10) (n := T + 2100) (by omega) (by omega) ?_
    exact K _ _ _ _ _ ⟨nT1, nC1, nD1, nM1, nZ1, f1, hC1.fr hN1 (fun k hk => hM2.fr k (by omega)) (fun _ _ => rfl), hN1, by omega, by omega, hM2.re, ho2, hW⟩ ls (lv_sub hl [2, 3, 4, 5, 6] rfl)
  · refine lv_aload_n hx hb dL_law_169 rfl (lv_at hl 6 rfl) ?_
    refine lv_iconst (v := 0) hx hb dL_law_170 (by decide) ?_
    refine kk_lald hx hb hE hW ho2 (by unfold vp_in; decide) dL_law_171 ?_
    rw [show f1 (0 : Int32).toNatClampNeg = (ssR S (xs (4 * q + 1))).toInt64 from hf1 c19]
    refine lv_iload hx hb dL_law_172 (lv_at hl 0 rfl) ?_
    refine lv_i2l hx hb dL_law_174 rfl ?_
    refine W.lcmp hx hb dL_law_175 ?_
    rw [lg_self]
    refine lv_if_eq (tgt := 181) hx hb dL_law_176 (by decide) (fun _ => ?_) (fun c9 => absurd (rfl) c9)
    refine lv_goto (tgt := 1068) hx hb dL_law_181 (by decide) ?_
    refine W.widen (k := C + 10) (n := T + 2100) (by omega) (by omega) ?_
    exact K _ _ _ _ _ ⟨nT1, nC1, nD1, nM1, nZ1, f1, hC1.fr hN1 (fun k hk => hM2.fr k (by omega)) (fun _ _ => rfl), hN1, by omega, by omega, hM2.re, ho2, hW⟩ ls (lv_sub hl [2, 3, 4, 5, 6] rfl)

set_option maxHeartbeats 4000000 in
set_option maxRecDepth 100000 in
theorem law_begin {p : Program} {l : Launch} {e : Env} {s : State} {m : MethodId} {below : List Frame} {meth : Method} {c : Code} {b L : Nat} {xs : Nat → Int32} (hnt : l.stackTraces = false) (C0 : lw_At p s m meth c b L xs) {D : va_G} (hE : kE D (fun q : Nat => s.heap.size ≤ q) s) {q C T : Nat} (hq : 4 * q + 4 ≤ L) (hL : L ≤ 2048) (hCb : C + 10 ≤ 601024) (hTb : T + 2100 ≤ 7293033) {S : St} {ad : Nat → Nat} {w : kWd} {H : Heap} {locs : List Loc} (hI : LI D (fun q : Nat => s.heap.size ≤ q) s q S ad w H locs) (K : LK p l e s m below meth c b D (fun q : Nat => s.heap.size ≤ q) q C T 1068) {ls : Array Slot} (hl : lv_has ls 7 [(4, .int (nI (4 * q))), (0, .ref b), (1, .ref (ad 0)), (2, .ref (ad 2000)), (3, .ref (ad 2100))]) : W p l e room_1 s m #[Value.ref b] below meth c H locs (C) (T) (lw_Z below #[Value.ref b] s) (F0 m 184 ls []) := by
  obtain ⟨hx, hb, hr, hml, hown0, hts0, hX, hbl, hlocks, hgv⟩ := id C0
  have hbA : ¬ (fun q : Nat => s.heap.size ≤ q) b := Nat.not_le.mpr hbl
  have hown : s.vm.findClass RL = some m.cls := hown0
  have hts : ∀ w ∈ wsL_law, w.before #[Value.ref b] s = true := fun w h => hts0 w (wsL_law_in w h)
  obtain ⟨nT, nC, nD, nM, nZ, fo, hC, hN, hnC, hnM, hM, ho, hW⟩ := hI
  have h60 := hN.2.2.2.2.2.1
  have h512 := hN.2.2.2.2.2.2.1
  have hd := hN.2.2.2.2.2.2.2.1
  have hz1 := hN.2.2.2.2.2.2.2.2.2.1
  have hz30 := hN.2.2.2.2.2.2.2.2.2.2.1
  have hby : ∀ k, k < nC → vp_in (S 4 k) 60 := fun k hk => by obtain ⟨t, ht, h4⟩ := hN.by hk; rw [h4]; exact vp_in_nI (by omega) (by decide)
  have hro : ∀ k, k < nC → vp_in (S 5 k) 12 := fun k hk => by obtain ⟨t, ht, h4⟩ := hN.ro hk; rw [h4]; exact vp_in_nI (by omega) (by decide)
  have hsl : ∀ k, k < 6 → S 8 k ≠ -1 → vp_in (S 8 k) 60 := fun k hk h => by
    rcases hN.sl hk with h8 | ⟨t, ht, h8⟩
    · exact absurd h8 h
    · rw [h8]; exact vp_in_nI (by omega) (by decide)
  refine lv_aload_n hx hb dL_law_184 rfl (lv_at hl 2 rfl) ?_
  refine lv_aload_n hx hb dL_law_185 rfl (lv_at hl 4 rfl) ?_
  refine kk_i (vx_runSW (As := [.ref (ad 0), .ref (ad 2100)]) (rest := []) ⟨hx, hb, hml, hown, hts⟩ (k_L_begin l hnt D _ ad w S nT nC nD nM nZ hC hN fo ho ) (vx_cwSW 2 hts gL_law_L_begin rfl rfl rfl (by decide +kernel) ⟨Nat.le_of_ble_eq_true rfl, Nat.le_of_ble_eq_true rfl⟩) (kSt hE hW _) rfl rfl hl.1 rfl (lv_room (Nat.le_of_ble_eq_true rfl)) dL_law_186 ⟨show C + 8 ≤ 601024 by omega, show T + 2060 ≤ 7293033 by omega⟩) hW (fun r4 ad1 w2 H5 locs hp3 hW => ?_)
  obtain ⟨e1, ⟨nT1, nC1, nD1, nM1, nZ1, hC1, hN1, hc1, hm1⟩, ⟨f1, ho1, hf1⟩, hw1, ha1, h01⟩ := hp3
  subst e1
  have a6 : ad1 0 = ad 0 := h01
  have a7 : ad1 2000 = ad 2000 := ha1 2000 (by decide)
  have a8 : ad1 2100 = ad 2100 := ha1 2100 (by decide)
  rw [← a6, ← a7, ← a8] at hl
  have hM1 : MW D S ad1 w2 w2 := hM.mv (fun k a b => hw1 k a (by omega)) (fun k a b => ha1 k a)
  refine lv_istore (lv' := [(5, .int (bgK S)), (4, .int (nI (4 * q))), (0, .ref b), (1, .ref (ad1 0)), (2, .ref (ad1 2000)), (3, .ref (ad1 2100))]) hx hb dL_law_189 hl (by decide) rfl (fun ls hl => ?_)
  refine lv_aload_n hx hb dL_law_191 rfl (lv_at hl 4 rfl) ?_
  refine kk_i (va_runV (As := []) (rest := []) ⟨hx, hb, hml, hown, hts⟩ (c_begin l D _ ad1 w2 S hM1  nT hN.1 h60) (cwV 0 hts gL_law_X6_begin rfl rfl rfl (by decide +kernel) ⟨Nat.le_of_ble_eq_true rfl, Nat.le_of_ble_eq_true rfl⟩) (kV hE hW hM1.o rfl _) rfl rfl hl.1 rfl (lv_room (Nat.le_of_ble_eq_true rfl)) dL_law_192 ⟨show C + 8 ≤ 601024 by omega, show T + 2060 ≤ 7293033 by omega⟩) hW (fun r12 ad9 w10 H13 locs hp11 hW => ?_)
  obtain ⟨e2, e3, hM2⟩ := hp11
  rw [e3] at hW
  subst e2
  have ho2 : w10 2100 = _ := (hM2.fr 2100 (by omega)).trans ho1
  refine lv_istore (lv' := [(6, .int (bgR S)), (5, .int (bgK S)), (4, .int (nI (4 * q))), (0, .ref b), (1, .ref (ad1 0)), (2, .ref (ad1 2000)), (3, .ref (ad1 2100))]) hx hb dL_law_195 hl (by decide) rfl (fun ls hl => ?_)
  refine lv_aload_n hx hb dL_law_197 rfl (lv_at hl 5 rfl) ?_
  refine kk_i (va_runV (As := []) (rest := []) ⟨hx, hb, hml, hown, hts⟩ (c_thrown l D _ ad1 w10 (bgN S) hM2.re) (cwV 0 hts gL_law_X6_thrown rfl rfl rfl (by decide +kernel) ⟨Nat.le_of_ble_eq_true rfl, Nat.le_of_ble_eq_true rfl⟩) (kV hE hW hM2.o rfl _) rfl rfl hl.1 rfl (lv_room (Nat.le_of_ble_eq_true rfl)) dL_law_198 ⟨show C + 8 ≤ 601024 by omega, show T + 2060 ≤ 7293033 by omega⟩) hW (fun r17 ad14 w15 H18 locs hp16 hW => ?_)
  obtain ⟨e4, e5, e6⟩ := hp16
  rw [e5, e6] at hW
  subst e4
  rw [show (bgN S) 17 0 = bgK S from bg17]
  refine lv_iload hx hb dL_law_201 (lv_at hl 1 rfl) ?_
  refine lv_icmp_eq (tgt := 208) hx hb dL_law_203 (by decide) (fun _ => ?_) (fun c9 => absurd (rfl) c9)
  refine lv_iload hx hb dL_law_208 (lv_at hl 1 rfl) ?_
  refine lv_if_ne (tgt := 225) hx hb dL_law_210 (by decide) (fun c19 => ?_) (fun c19 => ?_)
  · refine lv_goto (tgt := 1068) hx hb dL_law_225 (by decide) ?_
    refine W.widen (k := C + 10) (n := T + 2100) (by omega) (by omega) ?_
    exact K _ _ _ _ _ ⟨nT1, nC1, nD1, nM1, nZ1, f1, hC1.fr hN1 (fun k hk => hM2.fr k (by omega)) (fun _ _ => rfl), hN1, by omega, by omega, hM2.re, ho2, hW⟩ ls (lv_sub hl [2, 3, 4, 5, 6] rfl)
  · refine lv_aload_n hx hb dL_law_213 rfl (lv_at hl 6 rfl) ?_
    refine lv_iconst (v := 0) hx hb dL_law_214 (by decide) ?_
    refine kk_lald hx hb hE hW ho2 (by unfold vp_in; decide) dL_law_215 ?_
    rw [show f1 (0 : Int32).toNatClampNeg = (bgR S).toInt64 from hf1 c19]
    refine lv_iload hx hb dL_law_216 (lv_at hl 0 rfl) ?_
    refine lv_i2l hx hb dL_law_218 rfl ?_
    refine W.lcmp hx hb dL_law_219 ?_
    rw [lg_self]
    refine lv_if_eq (tgt := 225) hx hb dL_law_220 (by decide) (fun _ => ?_) (fun c9 => absurd (rfl) c9)
    refine lv_goto (tgt := 1068) hx hb dL_law_225 (by decide) ?_
    refine W.widen (k := C + 10) (n := T + 2100) (by omega) (by omega) ?_
    exact K _ _ _ _ _ ⟨nT1, nC1, nD1, nM1, nZ1, f1, hC1.fr hN1 (fun k hk => hM2.fr k (by omega)) (fun _ _ => rfl), hN1, by omega, by omega, hM2.re, ho2, hW⟩ ls (lv_sub hl [2, 3, 4, 5, 6] rfl)

set_option maxHeartbeats 4000000 in
set_option maxRecDepth 100000 in
theorem law_write {p : Program} {l : Launch} {e : Env} {s : State} {m : MethodId} {below : List Frame} {meth : Method} {c : Code} {b L : Nat} {xs : Nat → Int32} (hnt : l.stackTraces = false) (C0 : lw_At p s m meth c b L xs) {D : va_G} (hE : kE D (fun q : Nat => s.heap.size ≤ q) s) {q C T : Nat} (hq : 4 * q + 4 ≤ L) (hL : L ≤ 2048) (hCb : C + 10 ≤ 601024) (hTb : T + 2100 ≤ 7293033) {S : St} {ad : Nat → Nat} {w : kWd} {H : Heap} {locs : List Loc} (hI : LI D (fun q : Nat => s.heap.size ≤ q) s q S ad w H locs) (K : LK p l e s m below meth c b D (fun q : Nat => s.heap.size ≤ q) q C T 1068) {ls : Array Slot} (hl : lv_has ls 7 [(4, .int (nI (4 * q))), (0, .ref b), (1, .ref (ad 0)), (2, .ref (ad 2000)), (3, .ref (ad 2100))]) : W p l e room_1 s m #[Value.ref b] below meth c H locs (C) (T) (lw_Z below #[Value.ref b] s) (F0 m 228 ls []) := by
  obtain ⟨hx, hb, hr, hml, hown0, hts0, hX, hbl, hlocks, hgv⟩ := id C0
  have hbA : ¬ (fun q : Nat => s.heap.size ≤ q) b := Nat.not_le.mpr hbl
  have hown : s.vm.findClass RL = some m.cls := hown0
  have hts : ∀ w ∈ wsL_law, w.before #[Value.ref b] s = true := fun w h => hts0 w (wsL_law_in w h)
  obtain ⟨nT, nC, nD, nM, nZ, fo, hC, hN, hnC, hnM, hM, ho, hW⟩ := hI
  have h60 := hN.2.2.2.2.2.1
  have h512 := hN.2.2.2.2.2.2.1
  have hd := hN.2.2.2.2.2.2.2.1
  have hz1 := hN.2.2.2.2.2.2.2.2.2.1
  have hz30 := hN.2.2.2.2.2.2.2.2.2.2.1
  have hby : ∀ k, k < nC → vp_in (S 4 k) 60 := fun k hk => by obtain ⟨t, ht, h4⟩ := hN.by hk; rw [h4]; exact vp_in_nI (by omega) (by decide)
  have hro : ∀ k, k < nC → vp_in (S 5 k) 12 := fun k hk => by obtain ⟨t, ht, h4⟩ := hN.ro hk; rw [h4]; exact vp_in_nI (by omega) (by decide)
  have hsl : ∀ k, k < 6 → S 8 k ≠ -1 → vp_in (S 8 k) 60 := fun k hk h => by
    rcases hN.sl hk with h8 | ⟨t, ht, h8⟩
    · exact absurd h8 h
    · rw [h8]; exact vp_in_nI (by omega) (by decide)
  refine lv_aload_n hx hb dL_law_228 rfl (lv_at hl 2 rfl) ?_
  refine lv_aload_n hx hb dL_law_229 rfl (lv_at hl 1 rfl) ?_
  refine lv_iload hx hb dL_law_230 (lv_at hl 0 rfl) ?_
  refine lv_iconst (v := 1) hx hb dL_law_232 (by decide) ?_
  refine lv_iadd hx hb dL_law_233 ?_
  rw [show nI (4 * q) + 1 = nI (4 * q + 1) from nI_add _ 1]
  refine va_sld hx hb hX hbl hbA hW.2.2.1 (vp_in_nI (show 4 * q + 1 < L by omega) (by omega)) dL_law_234 ?_
  rw [nI_clamp (show 4 * q + 1 < 2 ^ 31 by omega)]
  refine lv_aload_n hx hb dL_law_235 rfl (lv_at hl 1 rfl) ?_
  refine lv_iload hx hb dL_law_236 (lv_at hl 0 rfl) ?_
  refine lv_iconst (v := 2) hx hb dL_law_238 (by decide) ?_
  refine lv_iadd hx hb dL_law_239 ?_
  rw [show nI (4 * q) + 2 = nI (4 * q + 2) from nI_add _ 2]
  refine va_sld hx hb hX hbl hbA hW.2.2.1 (vp_in_nI (show 4 * q + 2 < L by omega) (by omega)) dL_law_240 ?_
  rw [nI_clamp (show 4 * q + 2 < 2 ^ 31 by omega)]
  refine lv_aload_n hx hb dL_law_241 rfl (lv_at hl 1 rfl) ?_
  refine lv_iload hx hb dL_law_242 (lv_at hl 0 rfl) ?_
  refine lv_iconst (v := 3) hx hb dL_law_244 (by decide) ?_
  refine lv_iadd hx hb dL_law_245 ?_
  rw [show nI (4 * q) + 3 = nI (4 * q + 3) from nI_add _ 3]
  refine va_sld hx hb hX hbl hbA hW.2.2.1 (vp_in_nI (show 4 * q + 3 < L by omega) (by omega)) dL_law_246 ?_
  rw [nI_clamp (show 4 * q + 3 < 2 ^ 31 by omega)]
  refine lv_aload_n hx hb dL_law_247 rfl (lv_at hl 4 rfl) ?_
  refine kk_i (vx_runSW (As := [.ref (ad 0), .int (xs (4 * q + 1)), .int (xs (4 * q + 2)), .int (xs (4 * q + 3)), .ref (ad 2100)]) (rest := []) ⟨hx, hb, hml, hown, hts⟩ (k_L_write l hnt D _ ad w S nT nC nD nM nZ hC hN fo ho (by omega) (xs (4 * q + 1)) (xs (4 * q + 2)) (xs (4 * q + 3))) (vx_cwSW 5 hts gL_law_L_write rfl rfl rfl (by decide +kernel) ⟨Nat.le_of_ble_eq_true rfl, Nat.le_of_ble_eq_true rfl⟩) (kSt hE hW _) rfl rfl hl.1 rfl (lv_room (Nat.le_of_ble_eq_true rfl)) dL_law_248 ⟨show C + 10 ≤ 601024 by omega, show T + 2100 ≤ 7293033 by omega⟩) hW (fun r4 ad1 w2 H5 locs hp3 hW => ?_)
  obtain ⟨e1, ⟨nT1, nC1, nD1, nM1, nZ1, hC1, hN1, hc1, hm1⟩, ⟨f1, ho1, hf1⟩, hw1, ha1, h01⟩ := hp3
  subst e1
  have a6 : ad1 0 = ad 0 := h01
  have a7 : ad1 2000 = ad 2000 := ha1 2000 (by decide)
  have a8 : ad1 2100 = ad 2100 := ha1 2100 (by decide)
  rw [← a6, ← a7, ← a8] at hl
  have hM1 : MW D S ad1 w2 w2 := hM.mv (fun k a b => hw1 k a (by omega)) (fun k a b => ha1 k a)
  refine lv_istore (lv' := [(5, .int (wrK S (xs (4 * q + 1)) (xs (4 * q + 2)) (xs (4 * q + 3)))), (4, .int (nI (4 * q))), (0, .ref b), (1, .ref (ad1 0)), (2, .ref (ad1 2000)), (3, .ref (ad1 2100))]) hx hb dL_law_251 hl (by decide) rfl (fun ls hl => ?_)
  refine lv_aload_n hx hb dL_law_253 rfl (lv_at hl 4 rfl) ?_
  refine lv_aload_n hx hb dL_law_254 rfl (lv_at hl 2 rfl) ?_
  refine lv_iload hx hb dL_law_255 (lv_at hl 1 rfl) ?_
  refine lv_iconst (v := 1) hx hb dL_law_257 (by decide) ?_
  refine lv_iadd hx hb dL_law_258 ?_
  rw [show nI (4 * q) + 1 = nI (4 * q + 1) from nI_add _ 1]
  refine va_sld hx hb hX hbl hbA hW.2.2.1 (vp_in_nI (show 4 * q + 1 < L by omega) (by omega)) dL_law_259 ?_
  rw [nI_clamp (show 4 * q + 1 < 2 ^ 31 by omega)]
  refine lv_aload_n hx hb dL_law_260 rfl (lv_at hl 2 rfl) ?_
  refine lv_iload hx hb dL_law_261 (lv_at hl 1 rfl) ?_
  refine lv_iconst (v := 2) hx hb dL_law_263 (by decide) ?_
  refine lv_iadd hx hb dL_law_264 ?_
  rw [show nI (4 * q) + 2 = nI (4 * q + 2) from nI_add _ 2]
  refine va_sld hx hb hX hbl hbA hW.2.2.1 (vp_in_nI (show 4 * q + 2 < L by omega) (by omega)) dL_law_265 ?_
  rw [nI_clamp (show 4 * q + 2 < 2 ^ 31 by omega)]
  refine lv_aload_n hx hb dL_law_266 rfl (lv_at hl 2 rfl) ?_
  refine lv_iload hx hb dL_law_267 (lv_at hl 1 rfl) ?_
  refine lv_iconst (v := 3) hx hb dL_law_269 (by decide) ?_
  refine lv_iadd hx hb dL_law_270 ?_
  rw [show nI (4 * q) + 3 = nI (4 * q + 3) from nI_add _ 3]
  refine va_sld hx hb hX hbl hbA hW.2.2.1 (vp_in_nI (show 4 * q + 3 < L by omega) (by omega)) dL_law_271 ?_
  rw [nI_clamp (show 4 * q + 3 < 2 ^ 31 by omega)]
  refine kk_i (va_runV (As := [.int (xs (4 * q + 1)), .int (xs (4 * q + 2)), .int (xs (4 * q + 3))]) (rest := []) ⟨hx, hb, hml, hown, hts⟩ (c_write l D _ ad1 w2 S hM1 (xs (4 * q + 1)) (xs (4 * q + 2)) (xs (4 * q + 3)) nT hN.1 h60 nC hN.2.1 (by omega) (by omega) hby hsl nD hN.2.2.1 hd nZ hN.2.2.2.2.1 hz1 hz30) (cwV 3 hts gL_law_X6_write rfl rfl rfl (by decide +kernel) ⟨Nat.le_of_ble_eq_true rfl, Nat.le_of_ble_eq_true rfl⟩) (kV hE hW hM1.o rfl _) rfl rfl hl.1 rfl (lv_room (Nat.le_of_ble_eq_true rfl)) dL_law_272 ⟨show C + 10 ≤ 601024 by omega, show T + 2100 ≤ 7293033 by omega⟩) hW (fun r12 ad9 w10 H13 locs hp11 hW => ?_)
  obtain ⟨e2, e3, hM2⟩ := hp11
  rw [e3] at hW
  subst e2
  have ho2 : w10 2100 = _ := (hM2.fr 2100 (by omega)).trans ho1
  refine lv_istore (lv' := [(6, .int (wrR S (xs (4 * q + 1)) (xs (4 * q + 2)) (xs (4 * q + 3)))), (5, .int (wrK S (xs (4 * q + 1)) (xs (4 * q + 2)) (xs (4 * q + 3)))), (4, .int (nI (4 * q))), (0, .ref b), (1, .ref (ad1 0)), (2, .ref (ad1 2000)), (3, .ref (ad1 2100))]) hx hb dL_law_275 hl (by decide) rfl (fun ls hl => ?_)
  refine lv_aload_n hx hb dL_law_277 rfl (lv_at hl 5 rfl) ?_
  refine kk_i (va_runV (As := []) (rest := []) ⟨hx, hb, hml, hown, hts⟩ (c_thrown l D _ ad1 w10 (wrN S (xs (4 * q + 1)) (xs (4 * q + 2)) (xs (4 * q + 3))) hM2.re) (cwV 0 hts gL_law_X6_thrown rfl rfl rfl (by decide +kernel) ⟨Nat.le_of_ble_eq_true rfl, Nat.le_of_ble_eq_true rfl⟩) (kV hE hW hM2.o rfl _) rfl rfl hl.1 rfl (lv_room (Nat.le_of_ble_eq_true rfl)) dL_law_278 ⟨show C + 10 ≤ 601024 by omega, show T + 2100 ≤ 7293033 by omega⟩) hW (fun r17 ad14 w15 H18 locs hp16 hW => ?_)
  obtain ⟨e4, e5, e6⟩ := hp16
  rw [e5, e6] at hW
  subst e4
  rw [show (wrN S (xs (4 * q + 1)) (xs (4 * q + 2)) (xs (4 * q + 3))) 17 0 = wrK S (xs (4 * q + 1)) (xs (4 * q + 2)) (xs (4 * q + 3)) from wr17]
  refine lv_iload hx hb dL_law_281 (lv_at hl 1 rfl) ?_
  refine lv_icmp_eq (tgt := 288) hx hb dL_law_283 (by decide) (fun _ => ?_) (fun c9 => absurd (rfl) c9)
  refine lv_iload hx hb dL_law_288 (lv_at hl 1 rfl) ?_
  refine lv_if_ne (tgt := 305) hx hb dL_law_290 (by decide) (fun c19 => ?_) (fun c19 => ?_)
  · refine lv_goto (tgt := 1068) hx hb dL_law_305 (by decide) ?_
    refine W.widen (k := C + 10) (n := T + 2100) (by omega) (by omega) ?_
    exact K _ _ _ _ _ ⟨nT1, nC1, nD1, nM1, nZ1, f1, hC1.fr hN1 (fun k hk => hM2.fr k (by omega)) (fun _ _ => rfl), hN1, by omega, by omega, hM2.re, ho2, hW⟩ ls (lv_sub hl [2, 3, 4, 5, 6] rfl)
  · refine lv_aload_n hx hb dL_law_293 rfl (lv_at hl 6 rfl) ?_
    refine lv_iconst (v := 0) hx hb dL_law_294 (by decide) ?_
    refine kk_lald hx hb hE hW ho2 (by unfold vp_in; decide) dL_law_295 ?_
    rw [show f1 (0 : Int32).toNatClampNeg = (wrR S (xs (4 * q + 1)) (xs (4 * q + 2)) (xs (4 * q + 3))).toInt64 from hf1 c19]
    refine lv_iload hx hb dL_law_296 (lv_at hl 0 rfl) ?_
    refine lv_i2l hx hb dL_law_298 rfl ?_
    refine W.lcmp hx hb dL_law_299 ?_
    rw [lg_self]
    refine lv_if_eq (tgt := 305) hx hb dL_law_300 (by decide) (fun _ => ?_) (fun c9 => absurd (rfl) c9)
    refine lv_goto (tgt := 1068) hx hb dL_law_305 (by decide) ?_
    refine W.widen (k := C + 10) (n := T + 2100) (by omega) (by omega) ?_
    exact K _ _ _ _ _ ⟨nT1, nC1, nD1, nM1, nZ1, f1, hC1.fr hN1 (fun k hk => hM2.fr k (by omega)) (fun _ _ => rfl), hN1, by omega, by omega, hM2.re, ho2, hW⟩ ls (lv_sub hl [2, 3, 4, 5, 6] rfl)

set_option maxHeartbeats 4000000 in
set_option maxRecDepth 100000 in
theorem law_read {p : Program} {l : Launch} {e : Env} {s : State} {m : MethodId} {below : List Frame} {meth : Method} {c : Code} {b L : Nat} {xs : Nat → Int32} (hnt : l.stackTraces = false) (C0 : lw_At p s m meth c b L xs) {D : va_G} (hE : kE D (fun q : Nat => s.heap.size ≤ q) s) {q C T : Nat} (hq : 4 * q + 4 ≤ L) (hL : L ≤ 2048) (hCb : C + 10 ≤ 601024) (hTb : T + 2100 ≤ 7293033) {S : St} {ad : Nat → Nat} {w : kWd} {H : Heap} {locs : List Loc} (hI : LI D (fun q : Nat => s.heap.size ≤ q) s q S ad w H locs) (K : LK p l e s m below meth c b D (fun q : Nat => s.heap.size ≤ q) q C T 1068) {ls : Array Slot} (hl : lv_has ls 7 [(4, .int (nI (4 * q))), (0, .ref b), (1, .ref (ad 0)), (2, .ref (ad 2000)), (3, .ref (ad 2100))]) : W p l e room_1 s m #[Value.ref b] below meth c H locs (C) (T) (lw_Z below #[Value.ref b] s) (F0 m 308 ls []) := by
  obtain ⟨hx, hb, hr, hml, hown0, hts0, hX, hbl, hlocks, hgv⟩ := id C0
  have hbA : ¬ (fun q : Nat => s.heap.size ≤ q) b := Nat.not_le.mpr hbl
  have hown : s.vm.findClass RL = some m.cls := hown0
  have hts : ∀ w ∈ wsL_law, w.before #[Value.ref b] s = true := fun w h => hts0 w (wsL_law_in w h)
  obtain ⟨nT, nC, nD, nM, nZ, fo, hC, hN, hnC, hnM, hM, ho, hW⟩ := hI
  have h60 := hN.2.2.2.2.2.1
  have h512 := hN.2.2.2.2.2.2.1
  have hd := hN.2.2.2.2.2.2.2.1
  have hz1 := hN.2.2.2.2.2.2.2.2.2.1
  have hz30 := hN.2.2.2.2.2.2.2.2.2.2.1
  have hby : ∀ k, k < nC → vp_in (S 4 k) 60 := fun k hk => by obtain ⟨t, ht, h4⟩ := hN.by hk; rw [h4]; exact vp_in_nI (by omega) (by decide)
  have hro : ∀ k, k < nC → vp_in (S 5 k) 12 := fun k hk => by obtain ⟨t, ht, h4⟩ := hN.ro hk; rw [h4]; exact vp_in_nI (by omega) (by decide)
  have hsl : ∀ k, k < 6 → S 8 k ≠ -1 → vp_in (S 8 k) 60 := fun k hk h => by
    rcases hN.sl hk with h8 | ⟨t, ht, h8⟩
    · exact absurd h8 h
    · rw [h8]; exact vp_in_nI (by omega) (by decide)
  refine lv_aload_n hx hb dL_law_308 rfl (lv_at hl 2 rfl) ?_
  refine lv_aload_n hx hb dL_law_309 rfl (lv_at hl 1 rfl) ?_
  refine lv_iload hx hb dL_law_310 (lv_at hl 0 rfl) ?_
  refine lv_iconst (v := 1) hx hb dL_law_312 (by decide) ?_
  refine lv_iadd hx hb dL_law_313 ?_
  rw [show nI (4 * q) + 1 = nI (4 * q + 1) from nI_add _ 1]
  refine va_sld hx hb hX hbl hbA hW.2.2.1 (vp_in_nI (show 4 * q + 1 < L by omega) (by omega)) dL_law_314 ?_
  rw [nI_clamp (show 4 * q + 1 < 2 ^ 31 by omega)]
  refine lv_aload_n hx hb dL_law_315 rfl (lv_at hl 1 rfl) ?_
  refine lv_iload hx hb dL_law_316 (lv_at hl 0 rfl) ?_
  refine lv_iconst (v := 2) hx hb dL_law_318 (by decide) ?_
  refine lv_iadd hx hb dL_law_319 ?_
  rw [show nI (4 * q) + 2 = nI (4 * q + 2) from nI_add _ 2]
  refine va_sld hx hb hX hbl hbA hW.2.2.1 (vp_in_nI (show 4 * q + 2 < L by omega) (by omega)) dL_law_320 ?_
  rw [nI_clamp (show 4 * q + 2 < 2 ^ 31 by omega)]
  refine lv_aload_n hx hb dL_law_321 rfl (lv_at hl 4 rfl) ?_
  refine kk_i (vx_runSW (As := [.ref (ad 0), .int (xs (4 * q + 1)), .int (xs (4 * q + 2)), .ref (ad 2100)]) (rest := []) ⟨hx, hb, hml, hown, hts⟩ (k_L_read l hnt D _ ad w S nT nC nD nM nZ hC hN fo ho (xs (4 * q + 1)) (xs (4 * q + 2))) (vx_cwSW 4 hts gL_law_L_read rfl rfl rfl (by decide +kernel) ⟨Nat.le_of_ble_eq_true rfl, Nat.le_of_ble_eq_true rfl⟩) (kSt hE hW _) rfl rfl hl.1 rfl (lv_room (Nat.le_of_ble_eq_true rfl)) dL_law_322 ⟨show C + 8 ≤ 601024 by omega, show T + 60 ≤ 7293033 by omega⟩) hW (fun r4 ad1 w2 H5 locs hp3 hW => ?_)
  obtain ⟨e1, ⟨nT1, nC1, nD1, nM1, nZ1, hC1, hN1, hc1, hm1⟩, ⟨f1, ho1, hf1⟩, hw1, ha1, h01⟩ := hp3
  subst e1
  have a6 : ad1 0 = ad 0 := h01
  have a7 : ad1 2000 = ad 2000 := ha1 2000 (by decide)
  have a8 : ad1 2100 = ad 2100 := ha1 2100 (by decide)
  rw [← a6, ← a7, ← a8] at hl
  have hM1 : MW D S ad1 w2 w2 := hM.mv (fun k a b => hw1 k a (by omega)) (fun k a b => ha1 k a)
  refine lv_istore (lv' := [(5, .int (rdK S (S 2 (nv (xs (4 * q + 1)))) (xs (4 * q + 2)) (xs (4 * q + 1)) (r1K S (xs (4 * q + 1)) (xs (4 * q + 2))))), (4, .int (nI (4 * q))), (0, .ref b), (1, .ref (ad1 0)), (2, .ref (ad1 2000)), (3, .ref (ad1 2100))]) hx hb dL_law_325 hl (by decide) rfl (fun ls hl => ?_)
  refine lv_aload_n hx hb dL_law_327 rfl (lv_at hl 4 rfl) ?_
  refine lv_aload_n hx hb dL_law_328 rfl (lv_at hl 2 rfl) ?_
  refine lv_iload hx hb dL_law_329 (lv_at hl 1 rfl) ?_
  refine lv_iconst (v := 1) hx hb dL_law_331 (by decide) ?_
  refine lv_iadd hx hb dL_law_332 ?_
  rw [show nI (4 * q) + 1 = nI (4 * q + 1) from nI_add _ 1]
  refine va_sld hx hb hX hbl hbA hW.2.2.1 (vp_in_nI (show 4 * q + 1 < L by omega) (by omega)) dL_law_333 ?_
  rw [nI_clamp (show 4 * q + 1 < 2 ^ 31 by omega)]
  refine lv_aload_n hx hb dL_law_334 rfl (lv_at hl 2 rfl) ?_
  refine lv_iload hx hb dL_law_335 (lv_at hl 1 rfl) ?_
  refine lv_iconst (v := 2) hx hb dL_law_337 (by decide) ?_
  refine lv_iadd hx hb dL_law_338 ?_
  rw [show nI (4 * q) + 2 = nI (4 * q + 2) from nI_add _ 2]
  refine va_sld hx hb hX hbl hbA hW.2.2.1 (vp_in_nI (show 4 * q + 2 < L by omega) (by omega)) dL_law_339 ?_
  rw [nI_clamp (show 4 * q + 2 < 2 ^ 31 by omega)]
  refine kk_i (va_runV (As := [.int (xs (4 * q + 1)), .int (xs (4 * q + 2))]) (rest := []) ⟨hx, hb, hml, hown, hts⟩ (c_read l D _ ad1 w2 S hM1 (xs (4 * q + 1)) (xs (4 * q + 2)) nT hN.1 h60 nC hN.2.1 (by omega) hby hsl) (cwV 2 hts gL_law_X6_read rfl rfl rfl (by decide +kernel) ⟨Nat.le_of_ble_eq_true rfl, Nat.le_of_ble_eq_true rfl⟩) (kV hE hW hM1.o rfl _) rfl rfl hl.1 rfl (lv_room (Nat.le_of_ble_eq_true rfl)) dL_law_340 ⟨show C + 8 ≤ 601024 by omega, show T + 60 ≤ 7293033 by omega⟩) hW (fun r12 ad9 w10 H13 locs hp11 hW => ?_)
  obtain ⟨e2, e3, hM2⟩ := hp11
  rw [e3] at hW
  subst e2
  have ho2 : w10 2100 = _ := (hM2.fr 2100 (by omega)).trans ho1
  refine lv_istore (lv' := [(6, .int (rdR S (S 2 (nv (xs (4 * q + 1)))) (xs (4 * q + 2)) (xs (4 * q + 1)) (r1K S (xs (4 * q + 1)) (xs (4 * q + 2))))), (5, .int (rdK S (S 2 (nv (xs (4 * q + 1)))) (xs (4 * q + 2)) (xs (4 * q + 1)) (r1K S (xs (4 * q + 1)) (xs (4 * q + 2))))), (4, .int (nI (4 * q))), (0, .ref b), (1, .ref (ad1 0)), (2, .ref (ad1 2000)), (3, .ref (ad1 2100))]) hx hb dL_law_343 hl (by decide) rfl (fun ls hl => ?_)
  refine lv_aload_n hx hb dL_law_345 rfl (lv_at hl 5 rfl) ?_
  refine kk_i (va_runV (As := []) (rest := []) ⟨hx, hb, hml, hown, hts⟩ (c_thrown l D _ ad1 w10 (rdN S (S 2 (nv (xs (4 * q + 1)))) (xs (4 * q + 2)) (xs (4 * q + 1)) (r1K S (xs (4 * q + 1)) (xs (4 * q + 2)))) hM2.re) (cwV 0 hts gL_law_X6_thrown rfl rfl rfl (by decide +kernel) ⟨Nat.le_of_ble_eq_true rfl, Nat.le_of_ble_eq_true rfl⟩) (kV hE hW hM2.o rfl _) rfl rfl hl.1 rfl (lv_room (Nat.le_of_ble_eq_true rfl)) dL_law_346 ⟨show C + 8 ≤ 601024 by omega, show T + 60 ≤ 7293033 by omega⟩) hW (fun r17 ad14 w15 H18 locs hp16 hW => ?_)
  obtain ⟨e4, e5, e6⟩ := hp16
  rw [e5, e6] at hW
  subst e4
  rw [show (rdN S (S 2 (nv (xs (4 * q + 1)))) (xs (4 * q + 2)) (xs (4 * q + 1)) (r1K S (xs (4 * q + 1)) (xs (4 * q + 2)))) 17 0 = rdK S (S 2 (nv (xs (4 * q + 1)))) (xs (4 * q + 2)) (xs (4 * q + 1)) (r1K S (xs (4 * q + 1)) (xs (4 * q + 2))) from rd17]
  refine lv_iload hx hb dL_law_349 (lv_at hl 1 rfl) ?_
  refine lv_icmp_eq (tgt := 356) hx hb dL_law_351 (by decide) (fun _ => ?_) (fun c9 => absurd (rfl) c9)
  refine lv_iload hx hb dL_law_356 (lv_at hl 1 rfl) ?_
  refine lv_if_ne (tgt := 373) hx hb dL_law_358 (by decide) (fun c19 => ?_) (fun c19 => ?_)
  · refine lv_goto (tgt := 1068) hx hb dL_law_373 (by decide) ?_
    refine W.widen (k := C + 10) (n := T + 2100) (by omega) (by omega) ?_
    exact K _ _ _ _ _ ⟨nT1, nC1, nD1, nM1, nZ1, f1, hC1.fr hN1 (fun k hk => hM2.fr k (by omega)) (fun _ _ => rfl), hN1, by omega, by omega, hM2.re, ho2, hW⟩ ls (lv_sub hl [2, 3, 4, 5, 6] rfl)
  · refine lv_aload_n hx hb dL_law_361 rfl (lv_at hl 6 rfl) ?_
    refine lv_iconst (v := 0) hx hb dL_law_362 (by decide) ?_
    refine kk_lald hx hb hE hW ho2 (by unfold vp_in; decide) dL_law_363 ?_
    rw [show f1 (0 : Int32).toNatClampNeg = (rdR S (S 2 (nv (xs (4 * q + 1)))) (xs (4 * q + 2)) (xs (4 * q + 1)) (r1K S (xs (4 * q + 1)) (xs (4 * q + 2)))).toInt64 from hf1 c19]
    refine lv_iload hx hb dL_law_364 (lv_at hl 0 rfl) ?_
    refine lv_i2l hx hb dL_law_366 rfl ?_
    refine W.lcmp hx hb dL_law_367 ?_
    rw [lg_self]
    refine lv_if_eq (tgt := 373) hx hb dL_law_368 (by decide) (fun _ => ?_) (fun c9 => absurd (rfl) c9)
    refine lv_goto (tgt := 1068) hx hb dL_law_373 (by decide) ?_
    refine W.widen (k := C + 10) (n := T + 2100) (by omega) (by omega) ?_
    exact K _ _ _ _ _ ⟨nT1, nC1, nD1, nM1, nZ1, f1, hC1.fr hN1 (fun k hk => hM2.fr k (by omega)) (fun _ _ => rfl), hN1, by omega, by omega, hM2.re, ho2, hW⟩ ls (lv_sub hl [2, 3, 4, 5, 6] rfl)

set_option maxHeartbeats 4000000 in
set_option maxRecDepth 100000 in
theorem law_readAt {p : Program} {l : Launch} {e : Env} {s : State} {m : MethodId} {below : List Frame} {meth : Method} {c : Code} {b L : Nat} {xs : Nat → Int32} (hnt : l.stackTraces = false) (C0 : lw_At p s m meth c b L xs) {D : va_G} (hE : kE D (fun q : Nat => s.heap.size ≤ q) s) {q C T : Nat} (hq : 4 * q + 4 ≤ L) (hL : L ≤ 2048) (hCb : C + 10 ≤ 601024) (hTb : T + 2100 ≤ 7293033) {S : St} {ad : Nat → Nat} {w : kWd} {H : Heap} {locs : List Loc} (hI : LI D (fun q : Nat => s.heap.size ≤ q) s q S ad w H locs) (K : LK p l e s m below meth c b D (fun q : Nat => s.heap.size ≤ q) q C T 1068) {ls : Array Slot} (hl : lv_has ls 7 [(4, .int (nI (4 * q))), (0, .ref b), (1, .ref (ad 0)), (2, .ref (ad 2000)), (3, .ref (ad 2100))]) : W p l e room_1 s m #[Value.ref b] below meth c H locs (C) (T) (lw_Z below #[Value.ref b] s) (F0 m 376 ls []) := by
  obtain ⟨hx, hb, hr, hml, hown0, hts0, hX, hbl, hlocks, hgv⟩ := id C0
  have hbA : ¬ (fun q : Nat => s.heap.size ≤ q) b := Nat.not_le.mpr hbl
  have hown : s.vm.findClass RL = some m.cls := hown0
  have hts : ∀ w ∈ wsL_law, w.before #[Value.ref b] s = true := fun w h => hts0 w (wsL_law_in w h)
  obtain ⟨nT, nC, nD, nM, nZ, fo, hC, hN, hnC, hnM, hM, ho, hW⟩ := hI
  have h60 := hN.2.2.2.2.2.1
  have h512 := hN.2.2.2.2.2.2.1
  have hd := hN.2.2.2.2.2.2.2.1
  have hz1 := hN.2.2.2.2.2.2.2.2.2.1
  have hz30 := hN.2.2.2.2.2.2.2.2.2.2.1
  have hby : ∀ k, k < nC → vp_in (S 4 k) 60 := fun k hk => by obtain ⟨t, ht, h4⟩ := hN.by hk; rw [h4]; exact vp_in_nI (by omega) (by decide)
  have hro : ∀ k, k < nC → vp_in (S 5 k) 12 := fun k hk => by obtain ⟨t, ht, h4⟩ := hN.ro hk; rw [h4]; exact vp_in_nI (by omega) (by decide)
  have hsl : ∀ k, k < 6 → S 8 k ≠ -1 → vp_in (S 8 k) 60 := fun k hk h => by
    rcases hN.sl hk with h8 | ⟨t, ht, h8⟩
    · exact absurd h8 h
    · rw [h8]; exact vp_in_nI (by omega) (by decide)
  refine lv_aload_n hx hb dL_law_376 rfl (lv_at hl 2 rfl) ?_
  refine lv_aload_n hx hb dL_law_377 rfl (lv_at hl 1 rfl) ?_
  refine lv_iload hx hb dL_law_378 (lv_at hl 0 rfl) ?_
  refine lv_iconst (v := 1) hx hb dL_law_380 (by decide) ?_
  refine lv_iadd hx hb dL_law_381 ?_
  rw [show nI (4 * q) + 1 = nI (4 * q + 1) from nI_add _ 1]
  refine va_sld hx hb hX hbl hbA hW.2.2.1 (vp_in_nI (show 4 * q + 1 < L by omega) (by omega)) dL_law_382 ?_
  rw [nI_clamp (show 4 * q + 1 < 2 ^ 31 by omega)]
  refine lv_aload_n hx hb dL_law_383 rfl (lv_at hl 1 rfl) ?_
  refine lv_iload hx hb dL_law_384 (lv_at hl 0 rfl) ?_
  refine lv_iconst (v := 2) hx hb dL_law_386 (by decide) ?_
  refine lv_iadd hx hb dL_law_387 ?_
  rw [show nI (4 * q) + 2 = nI (4 * q + 2) from nI_add _ 2]
  refine va_sld hx hb hX hbl hbA hW.2.2.1 (vp_in_nI (show 4 * q + 2 < L by omega) (by omega)) dL_law_388 ?_
  rw [nI_clamp (show 4 * q + 2 < 2 ^ 31 by omega)]
  refine lv_aload_n hx hb dL_law_389 rfl (lv_at hl 4 rfl) ?_
  refine kk_i (vx_runSW (As := [.ref (ad 0), .int (xs (4 * q + 1)), .int (xs (4 * q + 2)), .ref (ad 2100)]) (rest := []) ⟨hx, hb, hml, hown, hts⟩ (k_L_readAt l hnt D _ ad w S nT nC nD nM nZ hC hN fo ho (xs (4 * q + 1)) (xs (4 * q + 2))) (vx_cwSW 4 hts gL_law_L_readAt rfl rfl rfl (by decide +kernel) ⟨Nat.le_of_ble_eq_true rfl, Nat.le_of_ble_eq_true rfl⟩) (kSt hE hW _) rfl rfl hl.1 rfl (lv_room (Nat.le_of_ble_eq_true rfl)) dL_law_390 ⟨show C + 8 ≤ 601024 by omega, show T + 60 ≤ 7293033 by omega⟩) hW (fun r4 ad1 w2 H5 locs hp3 hW => ?_)
  obtain ⟨e1, ⟨nT1, nC1, nD1, nM1, nZ1, hC1, hN1, hc1, hm1⟩, ⟨f1, ho1, hf1⟩, hw1, ha1, h01⟩ := hp3
  subst e1
  have a6 : ad1 0 = ad 0 := h01
  have a7 : ad1 2000 = ad 2000 := ha1 2000 (by decide)
  have a8 : ad1 2100 = ad 2100 := ha1 2100 (by decide)
  rw [← a6, ← a7, ← a8] at hl
  have hM1 : MW D S ad1 w2 w2 := hM.mv (fun k a b => hw1 k a (by omega)) (fun k a b => ha1 k a)
  refine lv_istore (lv' := [(5, .int (rdK S (xs (4 * q + 1)) (xs (4 * q + 2)) (-1) (vrK S (xs (4 * q + 1)) (xs (4 * q + 2))))), (4, .int (nI (4 * q))), (0, .ref b), (1, .ref (ad1 0)), (2, .ref (ad1 2000)), (3, .ref (ad1 2100))]) hx hb dL_law_393 hl (by decide) rfl (fun ls hl => ?_)
  refine lv_aload_n hx hb dL_law_395 rfl (lv_at hl 4 rfl) ?_
  refine lv_aload_n hx hb dL_law_396 rfl (lv_at hl 2 rfl) ?_
  refine lv_iload hx hb dL_law_397 (lv_at hl 1 rfl) ?_
  refine lv_iconst (v := 1) hx hb dL_law_399 (by decide) ?_
  refine lv_iadd hx hb dL_law_400 ?_
  rw [show nI (4 * q) + 1 = nI (4 * q + 1) from nI_add _ 1]
  refine va_sld hx hb hX hbl hbA hW.2.2.1 (vp_in_nI (show 4 * q + 1 < L by omega) (by omega)) dL_law_401 ?_
  rw [nI_clamp (show 4 * q + 1 < 2 ^ 31 by omega)]
  refine lv_aload_n hx hb dL_law_402 rfl (lv_at hl 2 rfl) ?_
  refine lv_iload hx hb dL_law_403 (lv_at hl 1 rfl) ?_
  refine lv_iconst (v := 2) hx hb dL_law_405 (by decide) ?_
  refine lv_iadd hx hb dL_law_406 ?_
  rw [show nI (4 * q) + 2 = nI (4 * q + 2) from nI_add _ 2]
  refine va_sld hx hb hX hbl hbA hW.2.2.1 (vp_in_nI (show 4 * q + 2 < L by omega) (by omega)) dL_law_407 ?_
  rw [nI_clamp (show 4 * q + 2 < 2 ^ 31 by omega)]
  refine kk_i (va_runV (As := [.int (xs (4 * q + 1)), .int (xs (4 * q + 2))]) (rest := []) ⟨hx, hb, hml, hown, hts⟩ (c_readAt l D _ ad1 w2 S hM1 (xs (4 * q + 1)) (xs (4 * q + 2)) nC hN.2.1 (by omega) hby hsl) (cwV 2 hts gL_law_X6_readAt rfl rfl rfl (by decide +kernel) ⟨Nat.le_of_ble_eq_true rfl, Nat.le_of_ble_eq_true rfl⟩) (kV hE hW hM1.o rfl _) rfl rfl hl.1 rfl (lv_room (Nat.le_of_ble_eq_true rfl)) dL_law_408 ⟨show C + 8 ≤ 601024 by omega, show T + 60 ≤ 7293033 by omega⟩) hW (fun r12 ad9 w10 H13 locs hp11 hW => ?_)
  obtain ⟨e2, e3, hM2⟩ := hp11
  rw [e3] at hW
  subst e2
  have ho2 : w10 2100 = _ := (hM2.fr 2100 (by omega)).trans ho1
  refine lv_istore (lv' := [(6, .int (rdR S (xs (4 * q + 1)) (xs (4 * q + 2)) (-1) (vrK S (xs (4 * q + 1)) (xs (4 * q + 2))))), (5, .int (rdK S (xs (4 * q + 1)) (xs (4 * q + 2)) (-1) (vrK S (xs (4 * q + 1)) (xs (4 * q + 2))))), (4, .int (nI (4 * q))), (0, .ref b), (1, .ref (ad1 0)), (2, .ref (ad1 2000)), (3, .ref (ad1 2100))]) hx hb dL_law_411 hl (by decide) rfl (fun ls hl => ?_)
  refine lv_aload_n hx hb dL_law_413 rfl (lv_at hl 5 rfl) ?_
  refine kk_i (va_runV (As := []) (rest := []) ⟨hx, hb, hml, hown, hts⟩ (c_thrown l D _ ad1 w10 (rdN S (xs (4 * q + 1)) (xs (4 * q + 2)) (-1) (vrK S (xs (4 * q + 1)) (xs (4 * q + 2)))) hM2.re) (cwV 0 hts gL_law_X6_thrown rfl rfl rfl (by decide +kernel) ⟨Nat.le_of_ble_eq_true rfl, Nat.le_of_ble_eq_true rfl⟩) (kV hE hW hM2.o rfl _) rfl rfl hl.1 rfl (lv_room (Nat.le_of_ble_eq_true rfl)) dL_law_414 ⟨show C + 8 ≤ 601024 by omega, show T + 60 ≤ 7293033 by omega⟩) hW (fun r17 ad14 w15 H18 locs hp16 hW => ?_)
  obtain ⟨e4, e5, e6⟩ := hp16
  rw [e5, e6] at hW
  subst e4
  rw [show (rdN S (xs (4 * q + 1)) (xs (4 * q + 2)) (-1) (vrK S (xs (4 * q + 1)) (xs (4 * q + 2)))) 17 0 = rdK S (xs (4 * q + 1)) (xs (4 * q + 2)) (-1) (vrK S (xs (4 * q + 1)) (xs (4 * q + 2))) from rd17]
  refine lv_iload hx hb dL_law_417 (lv_at hl 1 rfl) ?_
  refine lv_icmp_eq (tgt := 424) hx hb dL_law_419 (by decide) (fun _ => ?_) (fun c9 => absurd (rfl) c9)
  refine lv_iload hx hb dL_law_424 (lv_at hl 1 rfl) ?_
  refine lv_if_ne (tgt := 441) hx hb dL_law_426 (by decide) (fun c19 => ?_) (fun c19 => ?_)
  · refine lv_goto (tgt := 1068) hx hb dL_law_441 (by decide) ?_
    refine W.widen (k := C + 10) (n := T + 2100) (by omega) (by omega) ?_
    exact K _ _ _ _ _ ⟨nT1, nC1, nD1, nM1, nZ1, f1, hC1.fr hN1 (fun k hk => hM2.fr k (by omega)) (fun _ _ => rfl), hN1, by omega, by omega, hM2.re, ho2, hW⟩ ls (lv_sub hl [2, 3, 4, 5, 6] rfl)
  · refine lv_aload_n hx hb dL_law_429 rfl (lv_at hl 6 rfl) ?_
    refine lv_iconst (v := 0) hx hb dL_law_430 (by decide) ?_
    refine kk_lald hx hb hE hW ho2 (by unfold vp_in; decide) dL_law_431 ?_
    rw [show f1 (0 : Int32).toNatClampNeg = (rdR S (xs (4 * q + 1)) (xs (4 * q + 2)) (-1) (vrK S (xs (4 * q + 1)) (xs (4 * q + 2)))).toInt64 from hf1 c19]
    refine lv_iload hx hb dL_law_432 (lv_at hl 0 rfl) ?_
    refine lv_i2l hx hb dL_law_434 rfl ?_
    refine W.lcmp hx hb dL_law_435 ?_
    rw [lg_self]
    refine lv_if_eq (tgt := 441) hx hb dL_law_436 (by decide) (fun _ => ?_) (fun c9 => absurd (rfl) c9)
    refine lv_goto (tgt := 1068) hx hb dL_law_441 (by decide) ?_
    refine W.widen (k := C + 10) (n := T + 2100) (by omega) (by omega) ?_
    exact K _ _ _ _ _ ⟨nT1, nC1, nD1, nM1, nZ1, f1, hC1.fr hN1 (fun k hk => hM2.fr k (by omega)) (fun _ _ => rfl), hN1, by omega, by omega, hM2.re, ho2, hW⟩ ls (lv_sub hl [2, 3, 4, 5, 6] rfl)

set_option maxHeartbeats 4000000 in
set_option maxRecDepth 100000 in
theorem law_save {p : Program} {l : Launch} {e : Env} {s : State} {m : MethodId} {below : List Frame} {meth : Method} {c : Code} {b L : Nat} {xs : Nat → Int32} (hnt : l.stackTraces = false) (C0 : lw_At p s m meth c b L xs) {D : va_G} (hE : kE D (fun q : Nat => s.heap.size ≤ q) s) {q C T : Nat} (hq : 4 * q + 4 ≤ L) (hL : L ≤ 2048) (hCb : C + 10 ≤ 601024) (hTb : T + 2100 ≤ 7293033) {S : St} {ad : Nat → Nat} {w : kWd} {H : Heap} {locs : List Loc} (hI : LI D (fun q : Nat => s.heap.size ≤ q) s q S ad w H locs) (K : LK p l e s m below meth c b D (fun q : Nat => s.heap.size ≤ q) q C T 1068) {ls : Array Slot} (hl : lv_has ls 7 [(4, .int (nI (4 * q))), (0, .ref b), (1, .ref (ad 0)), (2, .ref (ad 2000)), (3, .ref (ad 2100))]) : W p l e room_1 s m #[Value.ref b] below meth c H locs (C) (T) (lw_Z below #[Value.ref b] s) (F0 m 444 ls []) := by
  obtain ⟨hx, hb, hr, hml, hown0, hts0, hX, hbl, hlocks, hgv⟩ := id C0
  have hbA : ¬ (fun q : Nat => s.heap.size ≤ q) b := Nat.not_le.mpr hbl
  have hown : s.vm.findClass RL = some m.cls := hown0
  have hts : ∀ w ∈ wsL_law, w.before #[Value.ref b] s = true := fun w h => hts0 w (wsL_law_in w h)
  obtain ⟨nT, nC, nD, nM, nZ, fo, hC, hN, hnC, hnM, hM, ho, hW⟩ := hI
  have h60 := hN.2.2.2.2.2.1
  have h512 := hN.2.2.2.2.2.2.1
  have hd := hN.2.2.2.2.2.2.2.1
  have hz1 := hN.2.2.2.2.2.2.2.2.2.1
  have hz30 := hN.2.2.2.2.2.2.2.2.2.2.1
  have hby : ∀ k, k < nC → vp_in (S 4 k) 60 := fun k hk => by obtain ⟨t, ht, h4⟩ := hN.by hk; rw [h4]; exact vp_in_nI (by omega) (by decide)
  have hro : ∀ k, k < nC → vp_in (S 5 k) 12 := fun k hk => by obtain ⟨t, ht, h4⟩ := hN.ro hk; rw [h4]; exact vp_in_nI (by omega) (by decide)
  have hsl : ∀ k, k < 6 → S 8 k ≠ -1 → vp_in (S 8 k) 60 := fun k hk h => by
    rcases hN.sl hk with h8 | ⟨t, ht, h8⟩
    · exact absurd h8 h
    · rw [h8]; exact vp_in_nI (by omega) (by decide)
  refine lv_aload_n hx hb dL_law_444 rfl (lv_at hl 2 rfl) ?_
  refine lv_aload_n hx hb dL_law_445 rfl (lv_at hl 1 rfl) ?_
  refine lv_iload hx hb dL_law_446 (lv_at hl 0 rfl) ?_
  refine lv_iconst (v := 1) hx hb dL_law_448 (by decide) ?_
  refine lv_iadd hx hb dL_law_449 ?_
  rw [show nI (4 * q) + 1 = nI (4 * q + 1) from nI_add _ 1]
  refine va_sld hx hb hX hbl hbA hW.2.2.1 (vp_in_nI (show 4 * q + 1 < L by omega) (by omega)) dL_law_450 ?_
  rw [nI_clamp (show 4 * q + 1 < 2 ^ 31 by omega)]
  refine lv_aload_n hx hb dL_law_451 rfl (lv_at hl 4 rfl) ?_
  refine kk_i (vx_runSW (As := [.ref (ad 0), .int (xs (4 * q + 1)), .ref (ad 2100)]) (rest := []) ⟨hx, hb, hml, hown, hts⟩ (k_L_save l hnt D _ ad w S nT nC nD nM nZ hC hN fo ho (xs (4 * q + 1))) (vx_cwSW 3 hts gL_law_L_save rfl rfl rfl (by decide +kernel) ⟨Nat.le_of_ble_eq_true rfl, Nat.le_of_ble_eq_true rfl⟩) (kSt hE hW _) rfl rfl hl.1 rfl (lv_room (Nat.le_of_ble_eq_true rfl)) dL_law_452 ⟨show C + 8 ≤ 601024 by omega, show T + 60 ≤ 7293033 by omega⟩) hW (fun r4 ad1 w2 H5 locs hp3 hW => ?_)
  obtain ⟨e1, ⟨nT1, nC1, nD1, nM1, nZ1, hC1, hN1, hc1, hm1⟩, ⟨f1, ho1, hf1⟩, hw1, ha1, h01⟩ := hp3
  subst e1
  have a6 : ad1 0 = ad 0 := h01
  have a7 : ad1 2000 = ad 2000 := ha1 2000 (by decide)
  have a8 : ad1 2100 = ad 2100 := ha1 2100 (by decide)
  rw [← a6, ← a7, ← a8] at hl
  have hM1 : MW D S ad1 w2 w2 := hM.mv (fun k a b => hw1 k a (by omega)) (fun k a b => ha1 k a)
  refine lv_istore (lv' := [(5, .int (opK S (xs (4 * q + 1)))), (4, .int (nI (4 * q))), (0, .ref b), (1, .ref (ad1 0)), (2, .ref (ad1 2000)), (3, .ref (ad1 2100))]) hx hb dL_law_455 hl (by decide) rfl (fun ls hl => ?_)
  refine lv_aload_n hx hb dL_law_457 rfl (lv_at hl 4 rfl) ?_
  refine lv_aload_n hx hb dL_law_458 rfl (lv_at hl 2 rfl) ?_
  refine lv_iload hx hb dL_law_459 (lv_at hl 1 rfl) ?_
  refine lv_iconst (v := 1) hx hb dL_law_461 (by decide) ?_
  refine lv_iadd hx hb dL_law_462 ?_
  rw [show nI (4 * q) + 1 = nI (4 * q + 1) from nI_add _ 1]
  refine va_sld hx hb hX hbl hbA hW.2.2.1 (vp_in_nI (show 4 * q + 1 < L by omega) (by omega)) dL_law_463 ?_
  rw [nI_clamp (show 4 * q + 1 < 2 ^ 31 by omega)]
  refine kk_i (va_runV (As := [.int (xs (4 * q + 1))]) (rest := []) ⟨hx, hb, hml, hown, hts⟩ (c_save l D _ ad1 w2 S hM1 (xs (4 * q + 1)) nT hN.1 h60 nC hN.2.1 (by omega) ) (cwV 1 hts gL_law_X6_save rfl rfl rfl (by decide +kernel) ⟨Nat.le_of_ble_eq_true rfl, Nat.le_of_ble_eq_true rfl⟩) (kV hE hW hM1.o rfl _) rfl rfl hl.1 rfl (lv_room (Nat.le_of_ble_eq_true rfl)) dL_law_464 ⟨show C + 8 ≤ 601024 by omega, show T + 60 ≤ 7293033 by omega⟩) hW (fun r12 ad9 w10 H13 locs hp11 hW => ?_)
  obtain ⟨e2, e3, hM2⟩ := hp11
  rw [e3] at hW
  subst e2
  have ho2 : w10 2100 = _ := (hM2.fr 2100 (by omega)).trans ho1
  refine lv_istore (lv' := [(6, .int (saR S (xs (4 * q + 1)))), (5, .int (opK S (xs (4 * q + 1)))), (4, .int (nI (4 * q))), (0, .ref b), (1, .ref (ad1 0)), (2, .ref (ad1 2000)), (3, .ref (ad1 2100))]) hx hb dL_law_467 hl (by decide) rfl (fun ls hl => ?_)
  refine lv_aload_n hx hb dL_law_469 rfl (lv_at hl 5 rfl) ?_
  refine kk_i (va_runV (As := []) (rest := []) ⟨hx, hb, hml, hown, hts⟩ (c_thrown l D _ ad1 w10 (sS S 17 (opK S (xs (4 * q + 1)))) hM2.re) (cwV 0 hts gL_law_X6_thrown rfl rfl rfl (by decide +kernel) ⟨Nat.le_of_ble_eq_true rfl, Nat.le_of_ble_eq_true rfl⟩) (kV hE hW hM2.o rfl _) rfl rfl hl.1 rfl (lv_room (Nat.le_of_ble_eq_true rfl)) dL_law_470 ⟨show C + 8 ≤ 601024 by omega, show T + 60 ≤ 7293033 by omega⟩) hW (fun r17 ad14 w15 H18 locs hp16 hW => ?_)
  obtain ⟨e4, e5, e6⟩ := hp16
  rw [e5, e6] at hW
  subst e4
  rw [show (sS S 17 (opK S (xs (4 * q + 1)))) 17 0 = opK S (xs (4 * q + 1)) from no17]
  refine lv_iload hx hb dL_law_473 (lv_at hl 1 rfl) ?_
  refine lv_icmp_eq (tgt := 480) hx hb dL_law_475 (by decide) (fun _ => ?_) (fun c9 => absurd (rfl) c9)
  refine lv_iload hx hb dL_law_480 (lv_at hl 1 rfl) ?_
  refine lv_if_ne (tgt := 497) hx hb dL_law_482 (by decide) (fun c19 => ?_) (fun c19 => ?_)
  · refine lv_goto (tgt := 1068) hx hb dL_law_497 (by decide) ?_
    refine W.widen (k := C + 10) (n := T + 2100) (by omega) (by omega) ?_
    exact K _ _ _ _ _ ⟨nT1, nC1, nD1, nM1, nZ1, f1, hC1.fr hN1 (fun k hk => hM2.fr k (by omega)) (fun _ _ => rfl), hN1, by omega, by omega, hM2.re, ho2, hW⟩ ls (lv_sub hl [2, 3, 4, 5, 6] rfl)
  · refine lv_aload_n hx hb dL_law_485 rfl (lv_at hl 6 rfl) ?_
    refine lv_iconst (v := 0) hx hb dL_law_486 (by decide) ?_
    refine kk_lald hx hb hE hW ho2 (by unfold vp_in; decide) dL_law_487 ?_
    rw [show f1 (0 : Int32).toNatClampNeg = (saR S (xs (4 * q + 1))).toInt64 from hf1 c19]
    refine lv_iload hx hb dL_law_488 (lv_at hl 0 rfl) ?_
    refine lv_i2l hx hb dL_law_490 rfl ?_
    refine W.lcmp hx hb dL_law_491 ?_
    rw [lg_self]
    refine lv_if_eq (tgt := 497) hx hb dL_law_492 (by decide) (fun _ => ?_) (fun c9 => absurd (rfl) c9)
    refine lv_goto (tgt := 1068) hx hb dL_law_497 (by decide) ?_
    refine W.widen (k := C + 10) (n := T + 2100) (by omega) (by omega) ?_
    exact K _ _ _ _ _ ⟨nT1, nC1, nD1, nM1, nZ1, f1, hC1.fr hN1 (fun k hk => hM2.fr k (by omega)) (fun _ _ => rfl), hN1, by omega, by omega, hM2.re, ho2, hW⟩ ls (lv_sub hl [2, 3, 4, 5, 6] rfl)

set_option maxHeartbeats 4000000 in
set_option maxRecDepth 100000 in
theorem law_undoTo {p : Program} {l : Launch} {e : Env} {s : State} {m : MethodId} {below : List Frame} {meth : Method} {c : Code} {b L : Nat} {xs : Nat → Int32} (hnt : l.stackTraces = false) (C0 : lw_At p s m meth c b L xs) {D : va_G} (hE : kE D (fun q : Nat => s.heap.size ≤ q) s) {q C T : Nat} (hq : 4 * q + 4 ≤ L) (hL : L ≤ 2048) (hCb : C + 10 ≤ 601024) (hTb : T + 2100 ≤ 7293033) {S : St} {ad : Nat → Nat} {w : kWd} {H : Heap} {locs : List Loc} (hI : LI D (fun q : Nat => s.heap.size ≤ q) s q S ad w H locs) (K : LK p l e s m below meth c b D (fun q : Nat => s.heap.size ≤ q) q C T 1068) {ls : Array Slot} (hl : lv_has ls 7 [(4, .int (nI (4 * q))), (0, .ref b), (1, .ref (ad 0)), (2, .ref (ad 2000)), (3, .ref (ad 2100))]) : W p l e room_1 s m #[Value.ref b] below meth c H locs (C) (T) (lw_Z below #[Value.ref b] s) (F0 m 500 ls []) := by
  obtain ⟨hx, hb, hr, hml, hown0, hts0, hX, hbl, hlocks, hgv⟩ := id C0
  have hbA : ¬ (fun q : Nat => s.heap.size ≤ q) b := Nat.not_le.mpr hbl
  have hown : s.vm.findClass RL = some m.cls := hown0
  have hts : ∀ w ∈ wsL_law, w.before #[Value.ref b] s = true := fun w h => hts0 w (wsL_law_in w h)
  obtain ⟨nT, nC, nD, nM, nZ, fo, hC, hN, hnC, hnM, hM, ho, hW⟩ := hI
  have h60 := hN.2.2.2.2.2.1
  have h512 := hN.2.2.2.2.2.2.1
  have hd := hN.2.2.2.2.2.2.2.1
  have hz1 := hN.2.2.2.2.2.2.2.2.2.1
  have hz30 := hN.2.2.2.2.2.2.2.2.2.2.1
  have hby : ∀ k, k < nC → vp_in (S 4 k) 60 := fun k hk => by obtain ⟨t, ht, h4⟩ := hN.by hk; rw [h4]; exact vp_in_nI (by omega) (by decide)
  have hro : ∀ k, k < nC → vp_in (S 5 k) 12 := fun k hk => by obtain ⟨t, ht, h4⟩ := hN.ro hk; rw [h4]; exact vp_in_nI (by omega) (by decide)
  have hsl : ∀ k, k < 6 → S 8 k ≠ -1 → vp_in (S 8 k) 60 := fun k hk h => by
    rcases hN.sl hk with h8 | ⟨t, ht, h8⟩
    · exact absurd h8 h
    · rw [h8]; exact vp_in_nI (by omega) (by decide)
  refine lv_aload_n hx hb dL_law_500 rfl (lv_at hl 2 rfl) ?_
  refine lv_aload_n hx hb dL_law_501 rfl (lv_at hl 1 rfl) ?_
  refine lv_iload hx hb dL_law_502 (lv_at hl 0 rfl) ?_
  refine lv_iconst (v := 1) hx hb dL_law_504 (by decide) ?_
  refine lv_iadd hx hb dL_law_505 ?_
  rw [show nI (4 * q) + 1 = nI (4 * q + 1) from nI_add _ 1]
  refine va_sld hx hb hX hbl hbA hW.2.2.1 (vp_in_nI (show 4 * q + 1 < L by omega) (by omega)) dL_law_506 ?_
  rw [nI_clamp (show 4 * q + 1 < 2 ^ 31 by omega)]
  refine lv_aload_n hx hb dL_law_507 rfl (lv_at hl 1 rfl) ?_
  refine lv_iload hx hb dL_law_508 (lv_at hl 0 rfl) ?_
  refine lv_iconst (v := 2) hx hb dL_law_510 (by decide) ?_
  refine lv_iadd hx hb dL_law_511 ?_
  rw [show nI (4 * q) + 2 = nI (4 * q + 2) from nI_add _ 2]
  refine va_sld hx hb hX hbl hbA hW.2.2.1 (vp_in_nI (show 4 * q + 2 < L by omega) (by omega)) dL_law_512 ?_
  rw [nI_clamp (show 4 * q + 2 < 2 ^ 31 by omega)]
  refine lv_aload_n hx hb dL_law_513 rfl (lv_at hl 4 rfl) ?_
  refine kk_i (vx_runSW (As := [.ref (ad 0), .int (xs (4 * q + 1)), .int (xs (4 * q + 2)), .ref (ad 2100)]) (rest := []) ⟨hx, hb, hml, hown, hts⟩ (k_L_undoTo l hnt D _ ad w S nT nC nD nM nZ hC hN fo ho (xs (4 * q + 1)) (xs (4 * q + 2))) (vx_cwSW 4 hts gL_law_L_undoTo rfl rfl rfl (by decide +kernel) ⟨Nat.le_of_ble_eq_true rfl, Nat.le_of_ble_eq_true rfl⟩) (kSt hE hW _) rfl rfl hl.1 rfl (lv_room (Nat.le_of_ble_eq_true rfl)) dL_law_514 ⟨show C + 8 ≤ 601024 by omega, show T + 60 ≤ 7293033 by omega⟩) hW (fun r4 ad1 w2 H5 locs hp3 hW => ?_)
  obtain ⟨e1, ⟨nT1, nC1, nD1, nM1, nZ1, hC1, hN1, hc1, hm1⟩, ⟨f1, ho1, hf1⟩, hw1, ha1, h01⟩ := hp3
  subst e1
  have a6 : ad1 0 = ad 0 := h01
  have a7 : ad1 2000 = ad 2000 := ha1 2000 (by decide)
  have a8 : ad1 2100 = ad 2100 := ha1 2100 (by decide)
  rw [← a6, ← a7, ← a8] at hl
  have hM1 : MW D S ad1 w2 w2 := hM.mv (fun k a b => hw1 k a (by omega)) (fun k a b => ha1 k a)
  refine lv_istore (lv' := [(5, .int (utK S (xs (4 * q + 1)) (xs (4 * q + 2)))), (4, .int (nI (4 * q))), (0, .ref b), (1, .ref (ad1 0)), (2, .ref (ad1 2000)), (3, .ref (ad1 2100))]) hx hb dL_law_517 hl (by decide) rfl (fun ls hl => ?_)
  refine lv_aload_n hx hb dL_law_519 rfl (lv_at hl 4 rfl) ?_
  refine lv_aload_n hx hb dL_law_520 rfl (lv_at hl 2 rfl) ?_
  refine lv_iload hx hb dL_law_521 (lv_at hl 1 rfl) ?_
  refine lv_iconst (v := 1) hx hb dL_law_523 (by decide) ?_
  refine lv_iadd hx hb dL_law_524 ?_
  rw [show nI (4 * q) + 1 = nI (4 * q + 1) from nI_add _ 1]
  refine va_sld hx hb hX hbl hbA hW.2.2.1 (vp_in_nI (show 4 * q + 1 < L by omega) (by omega)) dL_law_525 ?_
  rw [nI_clamp (show 4 * q + 1 < 2 ^ 31 by omega)]
  refine lv_aload_n hx hb dL_law_526 rfl (lv_at hl 2 rfl) ?_
  refine lv_iload hx hb dL_law_527 (lv_at hl 1 rfl) ?_
  refine lv_iconst (v := 2) hx hb dL_law_529 (by decide) ?_
  refine lv_iadd hx hb dL_law_530 ?_
  rw [show nI (4 * q) + 2 = nI (4 * q + 2) from nI_add _ 2]
  refine va_sld hx hb hX hbl hbA hW.2.2.1 (vp_in_nI (show 4 * q + 2 < L by omega) (by omega)) dL_law_531 ?_
  rw [nI_clamp (show 4 * q + 2 < 2 ^ 31 by omega)]
  refine kk_i (va_runV (As := [.int (xs (4 * q + 1)), .int (xs (4 * q + 2))]) (rest := []) ⟨hx, hb, hml, hown, hts⟩ (c_undoTo l D _ ad1 w2 S hM1 (xs (4 * q + 1)) (xs (4 * q + 2)) nT hN.1 h60 nC hN.2.1 (by omega) hro) (cwV 2 hts gL_law_X6_undoTo rfl rfl rfl (by decide +kernel) ⟨Nat.le_of_ble_eq_true rfl, Nat.le_of_ble_eq_true rfl⟩) (kV hE hW hM1.o rfl _) rfl rfl hl.1 rfl (lv_room (Nat.le_of_ble_eq_true rfl)) dL_law_532 ⟨show C + 8 ≤ 601024 by omega, show T + 60 ≤ 7293033 by omega⟩) hW (fun r12 ad9 w10 H13 locs hp11 hW => ?_)
  obtain ⟨e2, e3, hM2⟩ := hp11
  rw [e3] at hW
  subst e2
  have ho2 : w10 2100 = _ := (hM2.fr 2100 (by omega)).trans ho1
  refine lv_istore (lv' := [(6, .int (utR S (xs (4 * q + 1)) (xs (4 * q + 2)))), (5, .int (utK S (xs (4 * q + 1)) (xs (4 * q + 2)))), (4, .int (nI (4 * q))), (0, .ref b), (1, .ref (ad1 0)), (2, .ref (ad1 2000)), (3, .ref (ad1 2100))]) hx hb dL_law_535 hl (by decide) rfl (fun ls hl => ?_)
  refine lv_aload_n hx hb dL_law_537 rfl (lv_at hl 5 rfl) ?_
  refine kk_i (va_runV (As := []) (rest := []) ⟨hx, hb, hml, hown, hts⟩ (c_thrown l D _ ad1 w10 (utN S (xs (4 * q + 1)) (xs (4 * q + 2))) hM2.re) (cwV 0 hts gL_law_X6_thrown rfl rfl rfl (by decide +kernel) ⟨Nat.le_of_ble_eq_true rfl, Nat.le_of_ble_eq_true rfl⟩) (kV hE hW hM2.o rfl _) rfl rfl hl.1 rfl (lv_room (Nat.le_of_ble_eq_true rfl)) dL_law_538 ⟨show C + 8 ≤ 601024 by omega, show T + 60 ≤ 7293033 by omega⟩) hW (fun r17 ad14 w15 H18 locs hp16 hW => ?_)
  obtain ⟨e4, e5, e6⟩ := hp16
  rw [e5, e6] at hW
  subst e4
  rw [show (utN S (xs (4 * q + 1)) (xs (4 * q + 2))) 17 0 = utK S (xs (4 * q + 1)) (xs (4 * q + 2)) from ut17]
  refine lv_iload hx hb dL_law_541 (lv_at hl 1 rfl) ?_
  refine lv_icmp_eq (tgt := 548) hx hb dL_law_543 (by decide) (fun _ => ?_) (fun c9 => absurd (rfl) c9)
  refine lv_iload hx hb dL_law_548 (lv_at hl 1 rfl) ?_
  refine lv_if_ne (tgt := 565) hx hb dL_law_550 (by decide) (fun c19 => ?_) (fun c19 => ?_)
  · refine lv_goto (tgt := 1068) hx hb dL_law_565 (by decide) ?_
    refine W.widen (k := C + 10) (n := T + 2100) (by omega) (by omega) ?_
    exact K _ _ _ _ _ ⟨nT1, nC1, nD1, nM1, nZ1, f1, hC1.fr hN1 (fun k hk => hM2.fr k (by omega)) (fun _ _ => rfl), hN1, by omega, by omega, hM2.re, ho2, hW⟩ ls (lv_sub hl [2, 3, 4, 5, 6] rfl)
  · refine lv_aload_n hx hb dL_law_553 rfl (lv_at hl 6 rfl) ?_
    refine lv_iconst (v := 0) hx hb dL_law_554 (by decide) ?_
    refine kk_lald hx hb hE hW ho2 (by unfold vp_in; decide) dL_law_555 ?_
    rw [show f1 (0 : Int32).toNatClampNeg = (utR S (xs (4 * q + 1)) (xs (4 * q + 2))).toInt64 from hf1 c19]
    refine lv_iload hx hb dL_law_556 (lv_at hl 0 rfl) ?_
    refine lv_i2l hx hb dL_law_558 rfl ?_
    refine W.lcmp hx hb dL_law_559 ?_
    rw [lg_self]
    refine lv_if_eq (tgt := 565) hx hb dL_law_560 (by decide) (fun _ => ?_) (fun c9 => absurd (rfl) c9)
    refine lv_goto (tgt := 1068) hx hb dL_law_565 (by decide) ?_
    refine W.widen (k := C + 10) (n := T + 2100) (by omega) (by omega) ?_
    exact K _ _ _ _ _ ⟨nT1, nC1, nD1, nM1, nZ1, f1, hC1.fr hN1 (fun k hk => hM2.fr k (by omega)) (fun _ _ => rfl), hN1, by omega, by omega, hM2.re, ho2, hW⟩ ls (lv_sub hl [2, 3, 4, 5, 6] rfl)

set_option maxHeartbeats 4000000 in
set_option maxRecDepth 100000 in
theorem law_undo {p : Program} {l : Launch} {e : Env} {s : State} {m : MethodId} {below : List Frame} {meth : Method} {c : Code} {b L : Nat} {xs : Nat → Int32} (hnt : l.stackTraces = false) (C0 : lw_At p s m meth c b L xs) {D : va_G} (hE : kE D (fun q : Nat => s.heap.size ≤ q) s) {q C T : Nat} (hq : 4 * q + 4 ≤ L) (hL : L ≤ 2048) (hCb : C + 10 ≤ 601024) (hTb : T + 2100 ≤ 7293033) {S : St} {ad : Nat → Nat} {w : kWd} {H : Heap} {locs : List Loc} (hI : LI D (fun q : Nat => s.heap.size ≤ q) s q S ad w H locs) (K : LK p l e s m below meth c b D (fun q : Nat => s.heap.size ≤ q) q C T 1068) {ls : Array Slot} (hl : lv_has ls 7 [(4, .int (nI (4 * q))), (0, .ref b), (1, .ref (ad 0)), (2, .ref (ad 2000)), (3, .ref (ad 2100))]) : W p l e room_1 s m #[Value.ref b] below meth c H locs (C) (T) (lw_Z below #[Value.ref b] s) (F0 m 568 ls []) := by
  obtain ⟨hx, hb, hr, hml, hown0, hts0, hX, hbl, hlocks, hgv⟩ := id C0
  have hbA : ¬ (fun q : Nat => s.heap.size ≤ q) b := Nat.not_le.mpr hbl
  have hown : s.vm.findClass RL = some m.cls := hown0
  have hts : ∀ w ∈ wsL_law, w.before #[Value.ref b] s = true := fun w h => hts0 w (wsL_law_in w h)
  obtain ⟨nT, nC, nD, nM, nZ, fo, hC, hN, hnC, hnM, hM, ho, hW⟩ := hI
  have h60 := hN.2.2.2.2.2.1
  have h512 := hN.2.2.2.2.2.2.1
  have hd := hN.2.2.2.2.2.2.2.1
  have hz1 := hN.2.2.2.2.2.2.2.2.2.1
  have hz30 := hN.2.2.2.2.2.2.2.2.2.2.1
  have hby : ∀ k, k < nC → vp_in (S 4 k) 60 := fun k hk => by obtain ⟨t, ht, h4⟩ := hN.by hk; rw [h4]; exact vp_in_nI (by omega) (by decide)
  have hro : ∀ k, k < nC → vp_in (S 5 k) 12 := fun k hk => by obtain ⟨t, ht, h4⟩ := hN.ro hk; rw [h4]; exact vp_in_nI (by omega) (by decide)
  have hsl : ∀ k, k < 6 → S 8 k ≠ -1 → vp_in (S 8 k) 60 := fun k hk h => by
    rcases hN.sl hk with h8 | ⟨t, ht, h8⟩
    · exact absurd h8 h
    · rw [h8]; exact vp_in_nI (by omega) (by decide)
  refine lv_aload_n hx hb dL_law_568 rfl (lv_at hl 2 rfl) ?_
  refine lv_aload_n hx hb dL_law_569 rfl (lv_at hl 1 rfl) ?_
  refine lv_iload hx hb dL_law_570 (lv_at hl 0 rfl) ?_
  refine lv_iconst (v := 1) hx hb dL_law_572 (by decide) ?_
  refine lv_iadd hx hb dL_law_573 ?_
  rw [show nI (4 * q) + 1 = nI (4 * q + 1) from nI_add _ 1]
  refine va_sld hx hb hX hbl hbA hW.2.2.1 (vp_in_nI (show 4 * q + 1 < L by omega) (by omega)) dL_law_574 ?_
  rw [nI_clamp (show 4 * q + 1 < 2 ^ 31 by omega)]
  refine lv_aload_n hx hb dL_law_575 rfl (lv_at hl 4 rfl) ?_
  refine kk_i (vx_runSW (As := [.ref (ad 0), .int (xs (4 * q + 1)), .ref (ad 2100)]) (rest := []) ⟨hx, hb, hml, hown, hts⟩ (k_L_undo l hnt D _ ad w S nT nC nD nM nZ hC hN fo ho (xs (4 * q + 1))) (vx_cwSW 3 hts gL_law_L_undo rfl rfl rfl (by decide +kernel) ⟨Nat.le_of_ble_eq_true rfl, Nat.le_of_ble_eq_true rfl⟩) (kSt hE hW _) rfl rfl hl.1 rfl (lv_room (Nat.le_of_ble_eq_true rfl)) dL_law_576 ⟨show C + 8 ≤ 601024 by omega, show T + 60 ≤ 7293033 by omega⟩) hW (fun r4 ad1 w2 H5 locs hp3 hW => ?_)
  obtain ⟨e1, ⟨nT1, nC1, nD1, nM1, nZ1, hC1, hN1, hc1, hm1⟩, ⟨f1, ho1, hf1⟩, hw1, ha1, h01⟩ := hp3
  subst e1
  have a6 : ad1 0 = ad 0 := h01
  have a7 : ad1 2000 = ad 2000 := ha1 2000 (by decide)
  have a8 : ad1 2100 = ad 2100 := ha1 2100 (by decide)
  rw [← a6, ← a7, ← a8] at hl
  have hM1 : MW D S ad1 w2 w2 := hM.mv (fun k a b => hw1 k a (by omega)) (fun k a b => ha1 k a)
  refine lv_istore (lv' := [(5, .int (opK S (xs (4 * q + 1)))), (4, .int (nI (4 * q))), (0, .ref b), (1, .ref (ad1 0)), (2, .ref (ad1 2000)), (3, .ref (ad1 2100))]) hx hb dL_law_579 hl (by decide) rfl (fun ls hl => ?_)
  refine lv_aload_n hx hb dL_law_581 rfl (lv_at hl 4 rfl) ?_
  refine lv_aload_n hx hb dL_law_582 rfl (lv_at hl 2 rfl) ?_
  refine lv_iload hx hb dL_law_583 (lv_at hl 1 rfl) ?_
  refine lv_iconst (v := 1) hx hb dL_law_585 (by decide) ?_
  refine lv_iadd hx hb dL_law_586 ?_
  rw [show nI (4 * q) + 1 = nI (4 * q + 1) from nI_add _ 1]
  refine va_sld hx hb hX hbl hbA hW.2.2.1 (vp_in_nI (show 4 * q + 1 < L by omega) (by omega)) dL_law_587 ?_
  rw [nI_clamp (show 4 * q + 1 < 2 ^ 31 by omega)]
  refine kk_i (va_runV (As := [.int (xs (4 * q + 1))]) (rest := []) ⟨hx, hb, hml, hown, hts⟩ (c_undo l D _ ad1 w2 S hM1 (xs (4 * q + 1)) nT hN.1 h60 nC hN.2.1 (by omega) hro) (cwV 1 hts gL_law_X6_undo rfl rfl rfl (by decide +kernel) ⟨Nat.le_of_ble_eq_true rfl, Nat.le_of_ble_eq_true rfl⟩) (kV hE hW hM1.o rfl _) rfl rfl hl.1 rfl (lv_room (Nat.le_of_ble_eq_true rfl)) dL_law_588 ⟨show C + 8 ≤ 601024 by omega, show T + 60 ≤ 7293033 by omega⟩) hW (fun r12 ad9 w10 H13 locs hp11 hW => ?_)
  obtain ⟨e2, e3, hM2⟩ := hp11
  rw [e3] at hW
  subst e2
  have ho2 : w10 2100 = _ := (hM2.fr 2100 (by omega)).trans ho1
  refine lv_istore (lv' := [(6, .int (udR S (xs (4 * q + 1)))), (5, .int (opK S (xs (4 * q + 1)))), (4, .int (nI (4 * q))), (0, .ref b), (1, .ref (ad1 0)), (2, .ref (ad1 2000)), (3, .ref (ad1 2100))]) hx hb dL_law_591 hl (by decide) rfl (fun ls hl => ?_)
  refine lv_aload_n hx hb dL_law_593 rfl (lv_at hl 5 rfl) ?_
  refine kk_i (va_runV (As := []) (rest := []) ⟨hx, hb, hml, hown, hts⟩ (c_thrown l D _ ad1 w10 (udN S (xs (4 * q + 1))) hM2.re) (cwV 0 hts gL_law_X6_thrown rfl rfl rfl (by decide +kernel) ⟨Nat.le_of_ble_eq_true rfl, Nat.le_of_ble_eq_true rfl⟩) (kV hE hW hM2.o rfl _) rfl rfl hl.1 rfl (lv_room (Nat.le_of_ble_eq_true rfl)) dL_law_594 ⟨show C + 8 ≤ 601024 by omega, show T + 60 ≤ 7293033 by omega⟩) hW (fun r17 ad14 w15 H18 locs hp16 hW => ?_)
  obtain ⟨e4, e5, e6⟩ := hp16
  rw [e5, e6] at hW
  subst e4
  rw [show (udN S (xs (4 * q + 1))) 17 0 = opK S (xs (4 * q + 1)) from ud17]
  refine lv_iload hx hb dL_law_597 (lv_at hl 1 rfl) ?_
  refine lv_icmp_eq (tgt := 604) hx hb dL_law_599 (by decide) (fun _ => ?_) (fun c9 => absurd (rfl) c9)
  refine lv_iload hx hb dL_law_604 (lv_at hl 1 rfl) ?_
  refine lv_if_ne (tgt := 621) hx hb dL_law_606 (by decide) (fun c19 => ?_) (fun c19 => ?_)
  · refine lv_goto (tgt := 1068) hx hb dL_law_621 (by decide) ?_
    refine W.widen (k := C + 10) (n := T + 2100) (by omega) (by omega) ?_
    exact K _ _ _ _ _ ⟨nT1, nC1, nD1, nM1, nZ1, f1, hC1.fr hN1 (fun k hk => hM2.fr k (by omega)) (fun _ _ => rfl), hN1, by omega, by omega, hM2.re, ho2, hW⟩ ls (lv_sub hl [2, 3, 4, 5, 6] rfl)
  · refine lv_aload_n hx hb dL_law_609 rfl (lv_at hl 6 rfl) ?_
    refine lv_iconst (v := 0) hx hb dL_law_610 (by decide) ?_
    refine kk_lald hx hb hE hW ho2 (by unfold vp_in; decide) dL_law_611 ?_
    rw [show f1 (0 : Int32).toNatClampNeg = (udR S (xs (4 * q + 1))).toInt64 from hf1 c19]
    refine lv_iload hx hb dL_law_612 (lv_at hl 0 rfl) ?_
    refine lv_i2l hx hb dL_law_614 rfl ?_
    refine W.lcmp hx hb dL_law_615 ?_
    rw [lg_self]
    refine lv_if_eq (tgt := 621) hx hb dL_law_616 (by decide) (fun _ => ?_) (fun c9 => absurd (rfl) c9)
    refine lv_goto (tgt := 1068) hx hb dL_law_621 (by decide) ?_
    refine W.widen (k := C + 10) (n := T + 2100) (by omega) (by omega) ?_
    exact K _ _ _ _ _ ⟨nT1, nC1, nD1, nM1, nZ1, f1, hC1.fr hN1 (fun k hk => hM2.fr k (by omega)) (fun _ _ => rfl), hN1, by omega, by omega, hM2.re, ho2, hW⟩ ls (lv_sub hl [2, 3, 4, 5, 6] rfl)

set_option maxHeartbeats 4000000 in
set_option maxRecDepth 100000 in
theorem law_commit {p : Program} {l : Launch} {e : Env} {s : State} {m : MethodId} {below : List Frame} {meth : Method} {c : Code} {b L : Nat} {xs : Nat → Int32} (hnt : l.stackTraces = false) (C0 : lw_At p s m meth c b L xs) {D : va_G} (hE : kE D (fun q : Nat => s.heap.size ≤ q) s) {q C T : Nat} (hq : 4 * q + 4 ≤ L) (hL : L ≤ 2048) (hCb : C + 10 ≤ 601024) (hTb : T + 2100 ≤ 7293033) {S : St} {ad : Nat → Nat} {w : kWd} {H : Heap} {locs : List Loc} (hI : LI D (fun q : Nat => s.heap.size ≤ q) s q S ad w H locs) (K : LK p l e s m below meth c b D (fun q : Nat => s.heap.size ≤ q) q C T 1068) {ls : Array Slot} (hl : lv_has ls 7 [(4, .int (nI (4 * q))), (0, .ref b), (1, .ref (ad 0)), (2, .ref (ad 2000)), (3, .ref (ad 2100))]) : W p l e room_1 s m #[Value.ref b] below meth c H locs (C) (T) (lw_Z below #[Value.ref b] s) (F0 m 624 ls []) := by
  obtain ⟨hx, hb, hr, hml, hown0, hts0, hX, hbl, hlocks, hgv⟩ := id C0
  have hbA : ¬ (fun q : Nat => s.heap.size ≤ q) b := Nat.not_le.mpr hbl
  have hown : s.vm.findClass RL = some m.cls := hown0
  have hts : ∀ w ∈ wsL_law, w.before #[Value.ref b] s = true := fun w h => hts0 w (wsL_law_in w h)
  obtain ⟨nT, nC, nD, nM, nZ, fo, hC, hN, hnC, hnM, hM, ho, hW⟩ := hI
  have h60 := hN.2.2.2.2.2.1
  have h512 := hN.2.2.2.2.2.2.1
  have hd := hN.2.2.2.2.2.2.2.1
  have hz1 := hN.2.2.2.2.2.2.2.2.2.1
  have hz30 := hN.2.2.2.2.2.2.2.2.2.2.1
  have hby : ∀ k, k < nC → vp_in (S 4 k) 60 := fun k hk => by obtain ⟨t, ht, h4⟩ := hN.by hk; rw [h4]; exact vp_in_nI (by omega) (by decide)
  have hro : ∀ k, k < nC → vp_in (S 5 k) 12 := fun k hk => by obtain ⟨t, ht, h4⟩ := hN.ro hk; rw [h4]; exact vp_in_nI (by omega) (by decide)
  have hsl : ∀ k, k < 6 → S 8 k ≠ -1 → vp_in (S 8 k) 60 := fun k hk h => by
    rcases hN.sl hk with h8 | ⟨t, ht, h8⟩
    · exact absurd h8 h
    · rw [h8]; exact vp_in_nI (by omega) (by decide)
  refine lv_aload_n hx hb dL_law_624 rfl (lv_at hl 2 rfl) ?_
  refine lv_aload_n hx hb dL_law_625 rfl (lv_at hl 1 rfl) ?_
  refine lv_iload hx hb dL_law_626 (lv_at hl 0 rfl) ?_
  refine lv_iconst (v := 1) hx hb dL_law_628 (by decide) ?_
  refine lv_iadd hx hb dL_law_629 ?_
  rw [show nI (4 * q) + 1 = nI (4 * q + 1) from nI_add _ 1]
  refine va_sld hx hb hX hbl hbA hW.2.2.1 (vp_in_nI (show 4 * q + 1 < L by omega) (by omega)) dL_law_630 ?_
  rw [nI_clamp (show 4 * q + 1 < 2 ^ 31 by omega)]
  refine lv_aload_n hx hb dL_law_631 rfl (lv_at hl 4 rfl) ?_
  refine kk_i (vx_runSW (As := [.ref (ad 0), .int (xs (4 * q + 1)), .ref (ad 2100)]) (rest := []) ⟨hx, hb, hml, hown, hts⟩ (k_L_commit l hnt D _ ad w S nT nC nD nM nZ hC hN fo ho (by omega) (xs (4 * q + 1))) (vx_cwSW 3 hts gL_law_L_commit rfl rfl rfl (by decide +kernel) ⟨Nat.le_of_ble_eq_true rfl, Nat.le_of_ble_eq_true rfl⟩) (kSt hE hW _) rfl rfl hl.1 rfl (lv_room (Nat.le_of_ble_eq_true rfl)) dL_law_632 ⟨show C + 8 ≤ 601024 by omega, show T + 60 ≤ 7293033 by omega⟩) hW (fun r4 ad1 w2 H5 locs hp3 hW => ?_)
  obtain ⟨e1, ⟨nT1, nC1, nD1, nM1, nZ1, hC1, hN1, hc1, hm1⟩, ⟨f1, ho1, hf1⟩, hw1, ha1, h01⟩ := hp3
  subst e1
  have a6 : ad1 0 = ad 0 := h01
  have a7 : ad1 2000 = ad 2000 := ha1 2000 (by decide)
  have a8 : ad1 2100 = ad 2100 := ha1 2100 (by decide)
  rw [← a6, ← a7, ← a8] at hl
  have hM1 : MW D S ad1 w2 w2 := hM.mv (fun k a b => hw1 k a (by omega)) (fun k a b => ha1 k a)
  refine lv_istore (lv' := [(5, .int (opK S (xs (4 * q + 1)))), (4, .int (nI (4 * q))), (0, .ref b), (1, .ref (ad1 0)), (2, .ref (ad1 2000)), (3, .ref (ad1 2100))]) hx hb dL_law_635 hl (by decide) rfl (fun ls hl => ?_)
  refine lv_aload_n hx hb dL_law_637 rfl (lv_at hl 4 rfl) ?_
  refine lv_aload_n hx hb dL_law_638 rfl (lv_at hl 2 rfl) ?_
  refine lv_iload hx hb dL_law_639 (lv_at hl 1 rfl) ?_
  refine lv_iconst (v := 1) hx hb dL_law_641 (by decide) ?_
  refine lv_iadd hx hb dL_law_642 ?_
  rw [show nI (4 * q) + 1 = nI (4 * q + 1) from nI_add _ 1]
  refine va_sld hx hb hX hbl hbA hW.2.2.1 (vp_in_nI (show 4 * q + 1 < L by omega) (by omega)) dL_law_643 ?_
  rw [nI_clamp (show 4 * q + 1 < 2 ^ 31 by omega)]
  refine kk_i (va_runV (As := [.int (xs (4 * q + 1))]) (rest := []) ⟨hx, hb, hml, hown, hts⟩ (c_commit l D _ ad1 w2 S hM1 (xs (4 * q + 1)) nT hN.1 h60 ) (cwV 1 hts gL_law_X6_commit rfl rfl rfl (by decide +kernel) ⟨Nat.le_of_ble_eq_true rfl, Nat.le_of_ble_eq_true rfl⟩) (kV hE hW hM1.o rfl _) rfl rfl hl.1 rfl (lv_room (Nat.le_of_ble_eq_true rfl)) dL_law_644 ⟨show C + 8 ≤ 601024 by omega, show T + 60 ≤ 7293033 by omega⟩) hW (fun r12 ad9 w10 H13 locs hp11 hW => ?_)
  obtain ⟨e2, e3, hM2⟩ := hp11
  rw [e3] at hW
  subst e2
  have ho2 : w10 2100 = _ := (hM2.fr 2100 (by omega)).trans ho1
  refine lv_istore (lv' := [(6, .int (cmR S (xs (4 * q + 1)))), (5, .int (opK S (xs (4 * q + 1)))), (4, .int (nI (4 * q))), (0, .ref b), (1, .ref (ad1 0)), (2, .ref (ad1 2000)), (3, .ref (ad1 2100))]) hx hb dL_law_647 hl (by decide) rfl (fun ls hl => ?_)
  refine lv_aload_n hx hb dL_law_649 rfl (lv_at hl 5 rfl) ?_
  refine kk_i (va_runV (As := []) (rest := []) ⟨hx, hb, hml, hown, hts⟩ (c_thrown l D _ ad1 w10 (cmN S (xs (4 * q + 1))) hM2.re) (cwV 0 hts gL_law_X6_thrown rfl rfl rfl (by decide +kernel) ⟨Nat.le_of_ble_eq_true rfl, Nat.le_of_ble_eq_true rfl⟩) (kV hE hW hM2.o rfl _) rfl rfl hl.1 rfl (lv_room (Nat.le_of_ble_eq_true rfl)) dL_law_650 ⟨show C + 8 ≤ 601024 by omega, show T + 60 ≤ 7293033 by omega⟩) hW (fun r17 ad14 w15 H18 locs hp16 hW => ?_)
  obtain ⟨e4, e5, e6⟩ := hp16
  rw [e5, e6] at hW
  subst e4
  rw [show (cmN S (xs (4 * q + 1))) 17 0 = opK S (xs (4 * q + 1)) from cm17]
  refine lv_iload hx hb dL_law_653 (lv_at hl 1 rfl) ?_
  refine lv_icmp_eq (tgt := 660) hx hb dL_law_655 (by decide) (fun _ => ?_) (fun c9 => absurd (rfl) c9)
  refine lv_iload hx hb dL_law_660 (lv_at hl 1 rfl) ?_
  refine lv_if_ne (tgt := 677) hx hb dL_law_662 (by decide) (fun c19 => ?_) (fun c19 => ?_)
  · refine lv_goto (tgt := 1068) hx hb dL_law_677 (by decide) ?_
    refine W.widen (k := C + 10) (n := T + 2100) (by omega) (by omega) ?_
    exact K _ _ _ _ _ ⟨nT1, nC1, nD1, nM1, nZ1, f1, hC1.fr hN1 (fun k hk => hM2.fr k (by omega)) (fun _ _ => rfl), hN1, by omega, by omega, hM2.re, ho2, hW⟩ ls (lv_sub hl [2, 3, 4, 5, 6] rfl)
  · refine lv_aload_n hx hb dL_law_665 rfl (lv_at hl 6 rfl) ?_
    refine lv_iconst (v := 0) hx hb dL_law_666 (by decide) ?_
    refine kk_lald hx hb hE hW ho2 (by unfold vp_in; decide) dL_law_667 ?_
    rw [show f1 (0 : Int32).toNatClampNeg = (cmR S (xs (4 * q + 1))).toInt64 from hf1 c19]
    refine lv_iload hx hb dL_law_668 (lv_at hl 0 rfl) ?_
    refine lv_i2l hx hb dL_law_670 rfl ?_
    refine W.lcmp hx hb dL_law_671 ?_
    rw [lg_self]
    refine lv_if_eq (tgt := 677) hx hb dL_law_672 (by decide) (fun _ => ?_) (fun c9 => absurd (rfl) c9)
    refine lv_goto (tgt := 1068) hx hb dL_law_677 (by decide) ?_
    refine W.widen (k := C + 10) (n := T + 2100) (by omega) (by omega) ?_
    exact K _ _ _ _ _ ⟨nT1, nC1, nD1, nM1, nZ1, f1, hC1.fr hN1 (fun k hk => hM2.fr k (by omega)) (fun _ _ => rfl), hN1, by omega, by omega, hM2.re, ho2, hW⟩ ls (lv_sub hl [2, 3, 4, 5, 6] rfl)

set_option maxHeartbeats 4000000 in
set_option maxRecDepth 100000 in
theorem law_now {p : Program} {l : Launch} {e : Env} {s : State} {m : MethodId} {below : List Frame} {meth : Method} {c : Code} {b L : Nat} {xs : Nat → Int32} (hnt : l.stackTraces = false) (C0 : lw_At p s m meth c b L xs) {D : va_G} (hE : kE D (fun q : Nat => s.heap.size ≤ q) s) {q C T : Nat} (hq : 4 * q + 4 ≤ L) (hL : L ≤ 2048) (hCb : C + 10 ≤ 601024) (hTb : T + 2100 ≤ 7293033) {S : St} {ad : Nat → Nat} {w : kWd} {H : Heap} {locs : List Loc} (hI : LI D (fun q : Nat => s.heap.size ≤ q) s q S ad w H locs) (K : LK p l e s m below meth c b D (fun q : Nat => s.heap.size ≤ q) q C T 1068) {ls : Array Slot} (hl : lv_has ls 7 [(4, .int (nI (4 * q))), (0, .ref b), (1, .ref (ad 0)), (2, .ref (ad 2000)), (3, .ref (ad 2100))]) : W p l e room_1 s m #[Value.ref b] below meth c H locs (C) (T) (lw_Z below #[Value.ref b] s) (F0 m 706 ls []) := by
  obtain ⟨hx, hb, hr, hml, hown0, hts0, hX, hbl, hlocks, hgv⟩ := id C0
  have hbA : ¬ (fun q : Nat => s.heap.size ≤ q) b := Nat.not_le.mpr hbl
  have hown : s.vm.findClass RL = some m.cls := hown0
  have hts : ∀ w ∈ wsL_law, w.before #[Value.ref b] s = true := fun w h => hts0 w (wsL_law_in w h)
  obtain ⟨nT, nC, nD, nM, nZ, fo, hC, hN, hnC, hnM, hM, ho, hW⟩ := hI
  have h60 := hN.2.2.2.2.2.1
  have h512 := hN.2.2.2.2.2.2.1
  have hd := hN.2.2.2.2.2.2.2.1
  have hz1 := hN.2.2.2.2.2.2.2.2.2.1
  have hz30 := hN.2.2.2.2.2.2.2.2.2.2.1
  have hby : ∀ k, k < nC → vp_in (S 4 k) 60 := fun k hk => by obtain ⟨t, ht, h4⟩ := hN.by hk; rw [h4]; exact vp_in_nI (by omega) (by decide)
  have hro : ∀ k, k < nC → vp_in (S 5 k) 12 := fun k hk => by obtain ⟨t, ht, h4⟩ := hN.ro hk; rw [h4]; exact vp_in_nI (by omega) (by decide)
  have hsl : ∀ k, k < 6 → S 8 k ≠ -1 → vp_in (S 8 k) 60 := fun k hk h => by
    rcases hN.sl hk with h8 | ⟨t, ht, h8⟩
    · exact absurd h8 h
    · rw [h8]; exact vp_in_nI (by omega) (by decide)
  refine lv_aload_n hx hb dL_law_706 rfl (lv_at hl 2 rfl) ?_
  refine lv_aload_n hx hb dL_law_707 rfl (lv_at hl 1 rfl) ?_
  refine lv_iload hx hb dL_law_708 (lv_at hl 0 rfl) ?_
  refine lv_iconst (v := 1) hx hb dL_law_710 (by decide) ?_
  refine lv_iadd hx hb dL_law_711 ?_
  rw [show nI (4 * q) + 1 = nI (4 * q + 1) from nI_add _ 1]
  refine va_sld hx hb hX hbl hbA hW.2.2.1 (vp_in_nI (show 4 * q + 1 < L by omega) (by omega)) dL_law_712 ?_
  rw [nI_clamp (show 4 * q + 1 < 2 ^ 31 by omega)]
  refine lv_aload_n hx hb dL_law_713 rfl (lv_at hl 4 rfl) ?_
  refine kk_i (vx_runSW (As := [.ref (ad 0), .int (xs (4 * q + 1)), .ref (ad 2100)]) (rest := []) ⟨hx, hb, hml, hown, hts⟩ (k_L_now l hnt D _ ad w S nT nC nD nM nZ hC hN fo ho (xs (4 * q + 1))) (vx_cwSW 3 hts gL_law_L_now rfl rfl rfl (by decide +kernel) ⟨Nat.le_of_ble_eq_true rfl, Nat.le_of_ble_eq_true rfl⟩) (kSt hE hW _) rfl rfl hl.1 rfl (lv_room (Nat.le_of_ble_eq_true rfl)) dL_law_714 ⟨show C + 8 ≤ 601024 by omega, show T + 60 ≤ 7293033 by omega⟩) hW (fun r4 ad1 w2 H5 locs hp3 hW => ?_)
  obtain ⟨e1, ⟨nT1, nC1, nD1, nM1, nZ1, hC1, hN1, hc1, hm1⟩, ⟨f1, ho1, hf1⟩, hw1, ha1, h01⟩ := hp3
  subst e1
  have a6 : ad1 0 = ad 0 := h01
  have a7 : ad1 2000 = ad 2000 := ha1 2000 (by decide)
  have a8 : ad1 2100 = ad 2100 := ha1 2100 (by decide)
  rw [← a6, ← a7, ← a8] at hl
  have hM1 : MW D S ad1 w2 w2 := hM.mv (fun k a b => hw1 k a (by omega)) (fun k a b => ha1 k a)
  refine lv_istore (lv' := [(5, .int (noK (xs (4 * q + 1)))), (4, .int (nI (4 * q))), (0, .ref b), (1, .ref (ad1 0)), (2, .ref (ad1 2000)), (3, .ref (ad1 2100))]) hx hb dL_law_717 hl (by decide) rfl (fun ls hl => ?_)
  refine lv_aload_n hx hb dL_law_719 rfl (lv_at hl 4 rfl) ?_
  refine lv_aload_n hx hb dL_law_720 rfl (lv_at hl 2 rfl) ?_
  refine lv_iload hx hb dL_law_721 (lv_at hl 1 rfl) ?_
  refine lv_iconst (v := 1) hx hb dL_law_723 (by decide) ?_
  refine lv_iadd hx hb dL_law_724 ?_
  rw [show nI (4 * q) + 1 = nI (4 * q + 1) from nI_add _ 1]
  refine va_sld hx hb hX hbl hbA hW.2.2.1 (vp_in_nI (show 4 * q + 1 < L by omega) (by omega)) dL_law_725 ?_
  rw [nI_clamp (show 4 * q + 1 < 2 ^ 31 by omega)]
  refine kk_i (va_runV (As := [.int (xs (4 * q + 1))]) (rest := []) ⟨hx, hb, hml, hown, hts⟩ (c_now l D _ ad1 w2 S hM1 (xs (4 * q + 1)) ) (cwV 1 hts gL_law_X6_now rfl rfl rfl (by decide +kernel) ⟨Nat.le_of_ble_eq_true rfl, Nat.le_of_ble_eq_true rfl⟩) (kV hE hW hM1.o rfl _) rfl rfl hl.1 rfl (lv_room (Nat.le_of_ble_eq_true rfl)) dL_law_726 ⟨show C + 8 ≤ 601024 by omega, show T + 60 ≤ 7293033 by omega⟩) hW (fun r12 ad9 w10 H13 locs hp11 hW => ?_)
  obtain ⟨e2, e3, hM2⟩ := hp11
  rw [e3] at hW
  subst e2
  have ho2 : w10 2100 = _ := (hM2.fr 2100 (by omega)).trans ho1
  refine lv_istore (lv' := [(6, .int (noR S (xs (4 * q + 1)))), (5, .int (noK (xs (4 * q + 1)))), (4, .int (nI (4 * q))), (0, .ref b), (1, .ref (ad1 0)), (2, .ref (ad1 2000)), (3, .ref (ad1 2100))]) hx hb dL_law_729 hl (by decide) rfl (fun ls hl => ?_)
  refine lv_aload_n hx hb dL_law_731 rfl (lv_at hl 5 rfl) ?_
  refine kk_i (va_runV (As := []) (rest := []) ⟨hx, hb, hml, hown, hts⟩ (c_thrown l D _ ad1 w10 (sS S 17 (noK (xs (4 * q + 1)))) hM2.re) (cwV 0 hts gL_law_X6_thrown rfl rfl rfl (by decide +kernel) ⟨Nat.le_of_ble_eq_true rfl, Nat.le_of_ble_eq_true rfl⟩) (kV hE hW hM2.o rfl _) rfl rfl hl.1 rfl (lv_room (Nat.le_of_ble_eq_true rfl)) dL_law_732 ⟨show C + 8 ≤ 601024 by omega, show T + 60 ≤ 7293033 by omega⟩) hW (fun r17 ad14 w15 H18 locs hp16 hW => ?_)
  obtain ⟨e4, e5, e6⟩ := hp16
  rw [e5, e6] at hW
  subst e4
  rw [show (sS S 17 (noK (xs (4 * q + 1)))) 17 0 = noK (xs (4 * q + 1)) from no17]
  refine lv_iload hx hb dL_law_735 (lv_at hl 1 rfl) ?_
  refine lv_icmp_eq (tgt := 742) hx hb dL_law_737 (by decide) (fun _ => ?_) (fun c9 => absurd (rfl) c9)
  refine lv_iload hx hb dL_law_742 (lv_at hl 1 rfl) ?_
  refine lv_if_ne (tgt := 759) hx hb dL_law_744 (by decide) (fun c19 => ?_) (fun c19 => ?_)
  · refine lv_goto (tgt := 1068) hx hb dL_law_759 (by decide) ?_
    refine W.widen (k := C + 10) (n := T + 2100) (by omega) (by omega) ?_
    exact K _ _ _ _ _ ⟨nT1, nC1, nD1, nM1, nZ1, f1, hC1.fr hN1 (fun k hk => hM2.fr k (by omega)) (fun _ _ => rfl), hN1, by omega, by omega, hM2.re, ho2, hW⟩ ls (lv_sub hl [2, 3, 4, 5, 6] rfl)
  · refine lv_aload_n hx hb dL_law_747 rfl (lv_at hl 6 rfl) ?_
    refine lv_iconst (v := 0) hx hb dL_law_748 (by decide) ?_
    refine kk_lald hx hb hE hW ho2 (by unfold vp_in; decide) dL_law_749 ?_
    rw [show f1 (0 : Int32).toNatClampNeg = (noR S (xs (4 * q + 1))).toInt64 from hf1 c19]
    refine lv_iload hx hb dL_law_750 (lv_at hl 0 rfl) ?_
    refine lv_i2l hx hb dL_law_752 rfl ?_
    refine W.lcmp hx hb dL_law_753 ?_
    rw [lg_self]
    refine lv_if_eq (tgt := 759) hx hb dL_law_754 (by decide) (fun _ => ?_) (fun c9 => absurd (rfl) c9)
    refine lv_goto (tgt := 1068) hx hb dL_law_759 (by decide) ?_
    refine W.widen (k := C + 10) (n := T + 2100) (by omega) (by omega) ?_
    exact K _ _ _ _ _ ⟨nT1, nC1, nD1, nM1, nZ1, f1, hC1.fr hN1 (fun k hk => hM2.fr k (by omega)) (fun _ _ => rfl), hN1, by omega, by omega, hM2.re, ho2, hW⟩ ls (lv_sub hl [2, 3, 4, 5, 6] rfl)

set_option maxHeartbeats 4000000 in
set_option maxRecDepth 100000 in
theorem law_versionAt {p : Program} {l : Launch} {e : Env} {s : State} {m : MethodId} {below : List Frame} {meth : Method} {c : Code} {b L : Nat} {xs : Nat → Int32} (hnt : l.stackTraces = false) (C0 : lw_At p s m meth c b L xs) {D : va_G} (hE : kE D (fun q : Nat => s.heap.size ≤ q) s) {q C T : Nat} (hq : 4 * q + 4 ≤ L) (hL : L ≤ 2048) (hCb : C + 10 ≤ 601024) (hTb : T + 2100 ≤ 7293033) {S : St} {ad : Nat → Nat} {w : kWd} {H : Heap} {locs : List Loc} (hI : LI D (fun q : Nat => s.heap.size ≤ q) s q S ad w H locs) (K : LK p l e s m below meth c b D (fun q : Nat => s.heap.size ≤ q) q C T 1068) {ls : Array Slot} (hl : lv_has ls 7 [(4, .int (nI (4 * q))), (0, .ref b), (1, .ref (ad 0)), (2, .ref (ad 2000)), (3, .ref (ad 2100))]) : W p l e room_1 s m #[Value.ref b] below meth c H locs (C) (T) (lw_Z below #[Value.ref b] s) (F0 m 762 ls []) := by
  obtain ⟨hx, hb, hr, hml, hown0, hts0, hX, hbl, hlocks, hgv⟩ := id C0
  have hbA : ¬ (fun q : Nat => s.heap.size ≤ q) b := Nat.not_le.mpr hbl
  have hown : s.vm.findClass RL = some m.cls := hown0
  have hts : ∀ w ∈ wsL_law, w.before #[Value.ref b] s = true := fun w h => hts0 w (wsL_law_in w h)
  obtain ⟨nT, nC, nD, nM, nZ, fo, hC, hN, hnC, hnM, hM, ho, hW⟩ := hI
  have h60 := hN.2.2.2.2.2.1
  have h512 := hN.2.2.2.2.2.2.1
  have hd := hN.2.2.2.2.2.2.2.1
  have hz1 := hN.2.2.2.2.2.2.2.2.2.1
  have hz30 := hN.2.2.2.2.2.2.2.2.2.2.1
  have hby : ∀ k, k < nC → vp_in (S 4 k) 60 := fun k hk => by obtain ⟨t, ht, h4⟩ := hN.by hk; rw [h4]; exact vp_in_nI (by omega) (by decide)
  have hro : ∀ k, k < nC → vp_in (S 5 k) 12 := fun k hk => by obtain ⟨t, ht, h4⟩ := hN.ro hk; rw [h4]; exact vp_in_nI (by omega) (by decide)
  have hsl : ∀ k, k < 6 → S 8 k ≠ -1 → vp_in (S 8 k) 60 := fun k hk h => by
    rcases hN.sl hk with h8 | ⟨t, ht, h8⟩
    · exact absurd h8 h
    · rw [h8]; exact vp_in_nI (by omega) (by decide)
  refine lv_aload_n hx hb dL_law_762 rfl (lv_at hl 2 rfl) ?_
  refine lv_aload_n hx hb dL_law_763 rfl (lv_at hl 1 rfl) ?_
  refine lv_iload hx hb dL_law_764 (lv_at hl 0 rfl) ?_
  refine lv_iconst (v := 1) hx hb dL_law_766 (by decide) ?_
  refine lv_iadd hx hb dL_law_767 ?_
  rw [show nI (4 * q) + 1 = nI (4 * q + 1) from nI_add _ 1]
  refine va_sld hx hb hX hbl hbA hW.2.2.1 (vp_in_nI (show 4 * q + 1 < L by omega) (by omega)) dL_law_768 ?_
  rw [nI_clamp (show 4 * q + 1 < 2 ^ 31 by omega)]
  refine lv_aload_n hx hb dL_law_769 rfl (lv_at hl 1 rfl) ?_
  refine lv_iload hx hb dL_law_770 (lv_at hl 0 rfl) ?_
  refine lv_iconst (v := 2) hx hb dL_law_772 (by decide) ?_
  refine lv_iadd hx hb dL_law_773 ?_
  rw [show nI (4 * q) + 2 = nI (4 * q + 2) from nI_add _ 2]
  refine va_sld hx hb hX hbl hbA hW.2.2.1 (vp_in_nI (show 4 * q + 2 < L by omega) (by omega)) dL_law_774 ?_
  rw [nI_clamp (show 4 * q + 2 < 2 ^ 31 by omega)]
  refine lv_aload_n hx hb dL_law_775 rfl (lv_at hl 4 rfl) ?_
  refine kk_i (vx_runSW (As := [.ref (ad 0), .int (xs (4 * q + 1)), .int (xs (4 * q + 2)), .ref (ad 2100)]) (rest := []) ⟨hx, hb, hml, hown, hts⟩ (k_L_versionAt l hnt D _ ad w S nT nC nD nM nZ hC hN fo ho (xs (4 * q + 1)) (xs (4 * q + 2))) (vx_cwSW 4 hts gL_law_L_versionAt rfl rfl rfl (by decide +kernel) ⟨Nat.le_of_ble_eq_true rfl, Nat.le_of_ble_eq_true rfl⟩) (kSt hE hW _) rfl rfl hl.1 rfl (lv_room (Nat.le_of_ble_eq_true rfl)) dL_law_776 ⟨show C + 8 ≤ 601024 by omega, show T + 60 ≤ 7293033 by omega⟩) hW (fun r4 ad1 w2 H5 locs hp3 hW => ?_)
  obtain ⟨e1, ⟨nT1, nC1, nD1, nM1, nZ1, hC1, hN1, hc1, hm1⟩, ⟨f1, ho1, hf1⟩, hw1, ha1, h01⟩ := hp3
  subst e1
  have a6 : ad1 0 = ad 0 := h01
  have a7 : ad1 2000 = ad 2000 := ha1 2000 (by decide)
  have a8 : ad1 2100 = ad 2100 := ha1 2100 (by decide)
  rw [← a6, ← a7, ← a8] at hl
  have hM1 : MW D S ad1 w2 w2 := hM.mv (fun k a b => hw1 k a (by omega)) (fun k a b => ha1 k a)
  refine lv_istore (lv' := [(5, .int (vrK S (xs (4 * q + 1)) (xs (4 * q + 2)))), (4, .int (nI (4 * q))), (0, .ref b), (1, .ref (ad1 0)), (2, .ref (ad1 2000)), (3, .ref (ad1 2100))]) hx hb dL_law_779 hl (by decide) rfl (fun ls hl => ?_)
  refine lv_aload_n hx hb dL_law_781 rfl (lv_at hl 4 rfl) ?_
  refine lv_aload_n hx hb dL_law_782 rfl (lv_at hl 2 rfl) ?_
  refine lv_iload hx hb dL_law_783 (lv_at hl 1 rfl) ?_
  refine lv_iconst (v := 1) hx hb dL_law_785 (by decide) ?_
  refine lv_iadd hx hb dL_law_786 ?_
  rw [show nI (4 * q) + 1 = nI (4 * q + 1) from nI_add _ 1]
  refine va_sld hx hb hX hbl hbA hW.2.2.1 (vp_in_nI (show 4 * q + 1 < L by omega) (by omega)) dL_law_787 ?_
  rw [nI_clamp (show 4 * q + 1 < 2 ^ 31 by omega)]
  refine lv_aload_n hx hb dL_law_788 rfl (lv_at hl 2 rfl) ?_
  refine lv_iload hx hb dL_law_789 (lv_at hl 1 rfl) ?_
  refine lv_iconst (v := 2) hx hb dL_law_791 (by decide) ?_
  refine lv_iadd hx hb dL_law_792 ?_
  rw [show nI (4 * q) + 2 = nI (4 * q + 2) from nI_add _ 2]
  refine va_sld hx hb hX hbl hbA hW.2.2.1 (vp_in_nI (show 4 * q + 2 < L by omega) (by omega)) dL_law_793 ?_
  rw [nI_clamp (show 4 * q + 2 < 2 ^ 31 by omega)]
  refine kk_i (va_runV (As := [.int (xs (4 * q + 1)), .int (xs (4 * q + 2))]) (rest := []) ⟨hx, hb, hml, hown, hts⟩ (c_versionAt l D _ ad1 w2 S hM1 (xs (4 * q + 1)) (xs (4 * q + 2)) nC hN.2.1 (by omega) hby) (cwV 2 hts gL_law_X6_versionAt rfl rfl rfl (by decide +kernel) ⟨Nat.le_of_ble_eq_true rfl, Nat.le_of_ble_eq_true rfl⟩) (kV hE hW hM1.o rfl _) rfl rfl hl.1 rfl (lv_room (Nat.le_of_ble_eq_true rfl)) dL_law_794 ⟨show C + 8 ≤ 601024 by omega, show T + 60 ≤ 7293033 by omega⟩) hW (fun r12 ad9 w10 H13 locs hp11 hW => ?_)
  obtain ⟨e2, e3, hM2⟩ := hp11
  rw [e3] at hW
  subst e2
  have ho2 : w10 2100 = _ := (hM2.fr 2100 (by omega)).trans ho1
  refine lv_istore (lv' := [(6, .int (vrR S (xs (4 * q + 1)) (xs (4 * q + 2)))), (5, .int (vrK S (xs (4 * q + 1)) (xs (4 * q + 2)))), (4, .int (nI (4 * q))), (0, .ref b), (1, .ref (ad1 0)), (2, .ref (ad1 2000)), (3, .ref (ad1 2100))]) hx hb dL_law_797 hl (by decide) rfl (fun ls hl => ?_)
  refine lv_aload_n hx hb dL_law_799 rfl (lv_at hl 5 rfl) ?_
  refine kk_i (va_runV (As := []) (rest := []) ⟨hx, hb, hml, hown, hts⟩ (c_thrown l D _ ad1 w10 (vrN S (xs (4 * q + 1)) (xs (4 * q + 2))) hM2.re) (cwV 0 hts gL_law_X6_thrown rfl rfl rfl (by decide +kernel) ⟨Nat.le_of_ble_eq_true rfl, Nat.le_of_ble_eq_true rfl⟩) (kV hE hW hM2.o rfl _) rfl rfl hl.1 rfl (lv_room (Nat.le_of_ble_eq_true rfl)) dL_law_800 ⟨show C + 8 ≤ 601024 by omega, show T + 60 ≤ 7293033 by omega⟩) hW (fun r17 ad14 w15 H18 locs hp16 hW => ?_)
  obtain ⟨e4, e5, e6⟩ := hp16
  rw [e5, e6] at hW
  subst e4
  rw [show (vrN S (xs (4 * q + 1)) (xs (4 * q + 2))) 17 0 = vrK S (xs (4 * q + 1)) (xs (4 * q + 2)) from vr17]
  refine lv_iload hx hb dL_law_803 (lv_at hl 1 rfl) ?_
  refine lv_icmp_eq (tgt := 810) hx hb dL_law_805 (by decide) (fun _ => ?_) (fun c9 => absurd (rfl) c9)
  refine lv_iload hx hb dL_law_810 (lv_at hl 1 rfl) ?_
  refine lv_if_ne (tgt := 827) hx hb dL_law_812 (by decide) (fun c19 => ?_) (fun c19 => ?_)
  · refine lv_goto (tgt := 1068) hx hb dL_law_827 (by decide) ?_
    refine W.widen (k := C + 10) (n := T + 2100) (by omega) (by omega) ?_
    exact K _ _ _ _ _ ⟨nT1, nC1, nD1, nM1, nZ1, f1, hC1.fr hN1 (fun k hk => hM2.fr k (by omega)) (fun _ _ => rfl), hN1, by omega, by omega, hM2.re, ho2, hW⟩ ls (lv_sub hl [2, 3, 4, 5, 6] rfl)
  · refine lv_aload_n hx hb dL_law_815 rfl (lv_at hl 6 rfl) ?_
    refine lv_iconst (v := 0) hx hb dL_law_816 (by decide) ?_
    refine kk_lald hx hb hE hW ho2 (by unfold vp_in; decide) dL_law_817 ?_
    rw [show f1 (0 : Int32).toNatClampNeg = (vrR S (xs (4 * q + 1)) (xs (4 * q + 2))).toInt64 from hf1 c19]
    refine lv_iload hx hb dL_law_818 (lv_at hl 0 rfl) ?_
    refine lv_i2l hx hb dL_law_820 rfl ?_
    refine W.lcmp hx hb dL_law_821 ?_
    rw [lg_self]
    refine lv_if_eq (tgt := 827) hx hb dL_law_822 (by decide) (fun _ => ?_) (fun c9 => absurd (rfl) c9)
    refine lv_goto (tgt := 1068) hx hb dL_law_827 (by decide) ?_
    refine W.widen (k := C + 10) (n := T + 2100) (by omega) (by omega) ?_
    exact K _ _ _ _ _ ⟨nT1, nC1, nD1, nM1, nZ1, f1, hC1.fr hN1 (fun k hk => hM2.fr k (by omega)) (fun _ _ => rfl), hN1, by omega, by omega, hM2.re, ho2, hW⟩ ls (lv_sub hl [2, 3, 4, 5, 6] rfl)

set_option maxHeartbeats 4000000 in
set_option maxRecDepth 100000 in
theorem law_lockOf {p : Program} {l : Launch} {e : Env} {s : State} {m : MethodId} {below : List Frame} {meth : Method} {c : Code} {b L : Nat} {xs : Nat → Int32} (hnt : l.stackTraces = false) (C0 : lw_At p s m meth c b L xs) {D : va_G} (hE : kE D (fun q : Nat => s.heap.size ≤ q) s) {q C T : Nat} (hq : 4 * q + 4 ≤ L) (hL : L ≤ 2048) (hCb : C + 10 ≤ 601024) (hTb : T + 2100 ≤ 7293033) {S : St} {ad : Nat → Nat} {w : kWd} {H : Heap} {locs : List Loc} (hI : LI D (fun q : Nat => s.heap.size ≤ q) s q S ad w H locs) (K : LK p l e s m below meth c b D (fun q : Nat => s.heap.size ≤ q) q C T 1068) {ls : Array Slot} (hl : lv_has ls 7 [(4, .int (nI (4 * q))), (0, .ref b), (1, .ref (ad 0)), (2, .ref (ad 2000)), (3, .ref (ad 2100))]) : W p l e room_1 s m #[Value.ref b] below meth c H locs (C) (T) (lw_Z below #[Value.ref b] s) (F0 m 830 ls []) := by
  obtain ⟨hx, hb, hr, hml, hown0, hts0, hX, hbl, hlocks, hgv⟩ := id C0
  have hbA : ¬ (fun q : Nat => s.heap.size ≤ q) b := Nat.not_le.mpr hbl
  have hown : s.vm.findClass RL = some m.cls := hown0
  have hts : ∀ w ∈ wsL_law, w.before #[Value.ref b] s = true := fun w h => hts0 w (wsL_law_in w h)
  obtain ⟨nT, nC, nD, nM, nZ, fo, hC, hN, hnC, hnM, hM, ho, hW⟩ := hI
  have h60 := hN.2.2.2.2.2.1
  have h512 := hN.2.2.2.2.2.2.1
  have hd := hN.2.2.2.2.2.2.2.1
  have hz1 := hN.2.2.2.2.2.2.2.2.2.1
  have hz30 := hN.2.2.2.2.2.2.2.2.2.2.1
  have hby : ∀ k, k < nC → vp_in (S 4 k) 60 := fun k hk => by obtain ⟨t, ht, h4⟩ := hN.by hk; rw [h4]; exact vp_in_nI (by omega) (by decide)
  have hro : ∀ k, k < nC → vp_in (S 5 k) 12 := fun k hk => by obtain ⟨t, ht, h4⟩ := hN.ro hk; rw [h4]; exact vp_in_nI (by omega) (by decide)
  have hsl : ∀ k, k < 6 → S 8 k ≠ -1 → vp_in (S 8 k) 60 := fun k hk h => by
    rcases hN.sl hk with h8 | ⟨t, ht, h8⟩
    · exact absurd h8 h
    · rw [h8]; exact vp_in_nI (by omega) (by decide)
  refine lv_aload_n hx hb dL_law_830 rfl (lv_at hl 2 rfl) ?_
  refine lv_aload_n hx hb dL_law_831 rfl (lv_at hl 1 rfl) ?_
  refine lv_iload hx hb dL_law_832 (lv_at hl 0 rfl) ?_
  refine lv_iconst (v := 1) hx hb dL_law_834 (by decide) ?_
  refine lv_iadd hx hb dL_law_835 ?_
  rw [show nI (4 * q) + 1 = nI (4 * q + 1) from nI_add _ 1]
  refine va_sld hx hb hX hbl hbA hW.2.2.1 (vp_in_nI (show 4 * q + 1 < L by omega) (by omega)) dL_law_836 ?_
  rw [nI_clamp (show 4 * q + 1 < 2 ^ 31 by omega)]
  refine lv_aload_n hx hb dL_law_837 rfl (lv_at hl 4 rfl) ?_
  refine kk_i (vx_runSW (As := [.ref (ad 0), .int (xs (4 * q + 1)), .ref (ad 2100)]) (rest := []) ⟨hx, hb, hml, hown, hts⟩ (k_L_lockOf l hnt D _ ad w S nT nC nD nM nZ hC hN fo ho (xs (4 * q + 1))) (vx_cwSW 3 hts gL_law_L_lockOf rfl rfl rfl (by decide +kernel) ⟨Nat.le_of_ble_eq_true rfl, Nat.le_of_ble_eq_true rfl⟩) (kSt hE hW _) rfl rfl hl.1 rfl (lv_room (Nat.le_of_ble_eq_true rfl)) dL_law_838 ⟨show C + 8 ≤ 601024 by omega, show T + 60 ≤ 7293033 by omega⟩) hW (fun r4 ad1 w2 H5 locs hp3 hW => ?_)
  obtain ⟨e1, ⟨nT1, nC1, nD1, nM1, nZ1, hC1, hN1, hc1, hm1⟩, ⟨f1, ho1, hf1⟩, hw1, ha1, h01⟩ := hp3
  subst e1
  have a6 : ad1 0 = ad 0 := h01
  have a7 : ad1 2000 = ad 2000 := ha1 2000 (by decide)
  have a8 : ad1 2100 = ad 2100 := ha1 2100 (by decide)
  rw [← a6, ← a7, ← a8] at hl
  have hM1 : MW D S ad1 w2 w2 := hM.mv (fun k a b => hw1 k a (by omega)) (fun k a b => ha1 k a)
  refine lv_istore (lv' := [(5, .int (noK (xs (4 * q + 1)))), (4, .int (nI (4 * q))), (0, .ref b), (1, .ref (ad1 0)), (2, .ref (ad1 2000)), (3, .ref (ad1 2100))]) hx hb dL_law_841 hl (by decide) rfl (fun ls hl => ?_)
  refine lv_aload_n hx hb dL_law_843 rfl (lv_at hl 4 rfl) ?_
  refine lv_aload_n hx hb dL_law_844 rfl (lv_at hl 2 rfl) ?_
  refine lv_iload hx hb dL_law_845 (lv_at hl 1 rfl) ?_
  refine lv_iconst (v := 1) hx hb dL_law_847 (by decide) ?_
  refine lv_iadd hx hb dL_law_848 ?_
  rw [show nI (4 * q) + 1 = nI (4 * q + 1) from nI_add _ 1]
  refine va_sld hx hb hX hbl hbA hW.2.2.1 (vp_in_nI (show 4 * q + 1 < L by omega) (by omega)) dL_law_849 ?_
  rw [nI_clamp (show 4 * q + 1 < 2 ^ 31 by omega)]
  refine kk_i (va_runV (As := [.int (xs (4 * q + 1))]) (rest := []) ⟨hx, hb, hml, hown, hts⟩ (c_lockOf l D _ ad1 w2 S hM1 (xs (4 * q + 1)) nC hN.2.1 (by omega) hby) (cwV 1 hts gL_law_X6_lockOf rfl rfl rfl (by decide +kernel) ⟨Nat.le_of_ble_eq_true rfl, Nat.le_of_ble_eq_true rfl⟩) (kV hE hW hM1.o rfl _) rfl rfl hl.1 rfl (lv_room (Nat.le_of_ble_eq_true rfl)) dL_law_850 ⟨show C + 8 ≤ 601024 by omega, show T + 60 ≤ 7293033 by omega⟩) hW (fun r12 ad9 w10 H13 locs hp11 hW => ?_)
  obtain ⟨e2, e3, hM2⟩ := hp11
  rw [e3] at hW
  subst e2
  have ho2 : w10 2100 = _ := (hM2.fr 2100 (by omega)).trans ho1
  refine lv_istore (lv' := [(6, .int (loR S (xs (4 * q + 1)))), (5, .int (noK (xs (4 * q + 1)))), (4, .int (nI (4 * q))), (0, .ref b), (1, .ref (ad1 0)), (2, .ref (ad1 2000)), (3, .ref (ad1 2100))]) hx hb dL_law_853 hl (by decide) rfl (fun ls hl => ?_)
  refine lv_aload_n hx hb dL_law_855 rfl (lv_at hl 5 rfl) ?_
  refine kk_i (va_runV (As := []) (rest := []) ⟨hx, hb, hml, hown, hts⟩ (c_thrown l D _ ad1 w10 (sS S 17 (noK (xs (4 * q + 1)))) hM2.re) (cwV 0 hts gL_law_X6_thrown rfl rfl rfl (by decide +kernel) ⟨Nat.le_of_ble_eq_true rfl, Nat.le_of_ble_eq_true rfl⟩) (kV hE hW hM2.o rfl _) rfl rfl hl.1 rfl (lv_room (Nat.le_of_ble_eq_true rfl)) dL_law_856 ⟨show C + 8 ≤ 601024 by omega, show T + 60 ≤ 7293033 by omega⟩) hW (fun r17 ad14 w15 H18 locs hp16 hW => ?_)
  obtain ⟨e4, e5, e6⟩ := hp16
  rw [e5, e6] at hW
  subst e4
  rw [show (sS S 17 (noK (xs (4 * q + 1)))) 17 0 = noK (xs (4 * q + 1)) from no17]
  refine lv_iload hx hb dL_law_859 (lv_at hl 1 rfl) ?_
  refine lv_icmp_eq (tgt := 866) hx hb dL_law_861 (by decide) (fun _ => ?_) (fun c9 => absurd (rfl) c9)
  refine lv_iload hx hb dL_law_866 (lv_at hl 1 rfl) ?_
  refine lv_if_ne (tgt := 883) hx hb dL_law_868 (by decide) (fun c19 => ?_) (fun c19 => ?_)
  · refine lv_goto (tgt := 1068) hx hb dL_law_883 (by decide) ?_
    refine W.widen (k := C + 10) (n := T + 2100) (by omega) (by omega) ?_
    exact K _ _ _ _ _ ⟨nT1, nC1, nD1, nM1, nZ1, f1, hC1.fr hN1 (fun k hk => hM2.fr k (by omega)) (fun _ _ => rfl), hN1, by omega, by omega, hM2.re, ho2, hW⟩ ls (lv_sub hl [2, 3, 4, 5, 6] rfl)
  · refine lv_aload_n hx hb dL_law_871 rfl (lv_at hl 6 rfl) ?_
    refine lv_iconst (v := 0) hx hb dL_law_872 (by decide) ?_
    refine kk_lald hx hb hE hW ho2 (by unfold vp_in; decide) dL_law_873 ?_
    rw [show f1 (0 : Int32).toNatClampNeg = (loR S (xs (4 * q + 1))).toInt64 from hf1 c19]
    refine lv_iload hx hb dL_law_874 (lv_at hl 0 rfl) ?_
    refine lv_i2l hx hb dL_law_876 rfl ?_
    refine W.lcmp hx hb dL_law_877 ?_
    rw [lg_self]
    refine lv_if_eq (tgt := 883) hx hb dL_law_878 (by decide) (fun _ => ?_) (fun c9 => absurd (rfl) c9)
    refine lv_goto (tgt := 1068) hx hb dL_law_883 (by decide) ?_
    refine W.widen (k := C + 10) (n := T + 2100) (by omega) (by omega) ?_
    exact K _ _ _ _ _ ⟨nT1, nC1, nD1, nM1, nZ1, f1, hC1.fr hN1 (fun k hk => hM2.fr k (by omega)) (fun _ _ => rfl), hN1, by omega, by omega, hM2.re, ho2, hW⟩ ls (lv_sub hl [2, 3, 4, 5, 6] rfl)

set_option maxHeartbeats 4000000 in
set_option maxRecDepth 100000 in
theorem law_slotOf {p : Program} {l : Launch} {e : Env} {s : State} {m : MethodId} {below : List Frame} {meth : Method} {c : Code} {b L : Nat} {xs : Nat → Int32} (hnt : l.stackTraces = false) (C0 : lw_At p s m meth c b L xs) {D : va_G} (hE : kE D (fun q : Nat => s.heap.size ≤ q) s) {q C T : Nat} (hq : 4 * q + 4 ≤ L) (hL : L ≤ 2048) (hCb : C + 10 ≤ 601024) (hTb : T + 2100 ≤ 7293033) {S : St} {ad : Nat → Nat} {w : kWd} {H : Heap} {locs : List Loc} (hI : LI D (fun q : Nat => s.heap.size ≤ q) s q S ad w H locs) (K : LK p l e s m below meth c b D (fun q : Nat => s.heap.size ≤ q) q C T 1068) {ls : Array Slot} (hl : lv_has ls 7 [(4, .int (nI (4 * q))), (0, .ref b), (1, .ref (ad 0)), (2, .ref (ad 2000)), (3, .ref (ad 2100))]) : W p l e room_1 s m #[Value.ref b] below meth c H locs (C) (T) (lw_Z below #[Value.ref b] s) (F0 m 886 ls []) := by
  obtain ⟨hx, hb, hr, hml, hown0, hts0, hX, hbl, hlocks, hgv⟩ := id C0
  have hbA : ¬ (fun q : Nat => s.heap.size ≤ q) b := Nat.not_le.mpr hbl
  have hown : s.vm.findClass RL = some m.cls := hown0
  have hts : ∀ w ∈ wsL_law, w.before #[Value.ref b] s = true := fun w h => hts0 w (wsL_law_in w h)
  obtain ⟨nT, nC, nD, nM, nZ, fo, hC, hN, hnC, hnM, hM, ho, hW⟩ := hI
  have h60 := hN.2.2.2.2.2.1
  have h512 := hN.2.2.2.2.2.2.1
  have hd := hN.2.2.2.2.2.2.2.1
  have hz1 := hN.2.2.2.2.2.2.2.2.2.1
  have hz30 := hN.2.2.2.2.2.2.2.2.2.2.1
  have hby : ∀ k, k < nC → vp_in (S 4 k) 60 := fun k hk => by obtain ⟨t, ht, h4⟩ := hN.by hk; rw [h4]; exact vp_in_nI (by omega) (by decide)
  have hro : ∀ k, k < nC → vp_in (S 5 k) 12 := fun k hk => by obtain ⟨t, ht, h4⟩ := hN.ro hk; rw [h4]; exact vp_in_nI (by omega) (by decide)
  have hsl : ∀ k, k < 6 → S 8 k ≠ -1 → vp_in (S 8 k) 60 := fun k hk h => by
    rcases hN.sl hk with h8 | ⟨t, ht, h8⟩
    · exact absurd h8 h
    · rw [h8]; exact vp_in_nI (by omega) (by decide)
  refine lv_aload_n hx hb dL_law_886 rfl (lv_at hl 2 rfl) ?_
  refine lv_aload_n hx hb dL_law_887 rfl (lv_at hl 1 rfl) ?_
  refine lv_iload hx hb dL_law_888 (lv_at hl 0 rfl) ?_
  refine lv_iconst (v := 1) hx hb dL_law_890 (by decide) ?_
  refine lv_iadd hx hb dL_law_891 ?_
  rw [show nI (4 * q) + 1 = nI (4 * q + 1) from nI_add _ 1]
  refine va_sld hx hb hX hbl hbA hW.2.2.1 (vp_in_nI (show 4 * q + 1 < L by omega) (by omega)) dL_law_892 ?_
  rw [nI_clamp (show 4 * q + 1 < 2 ^ 31 by omega)]
  refine lv_aload_n hx hb dL_law_893 rfl (lv_at hl 1 rfl) ?_
  refine lv_iload hx hb dL_law_894 (lv_at hl 0 rfl) ?_
  refine lv_iconst (v := 2) hx hb dL_law_896 (by decide) ?_
  refine lv_iadd hx hb dL_law_897 ?_
  rw [show nI (4 * q) + 2 = nI (4 * q + 2) from nI_add _ 2]
  refine va_sld hx hb hX hbl hbA hW.2.2.1 (vp_in_nI (show 4 * q + 2 < L by omega) (by omega)) dL_law_898 ?_
  rw [nI_clamp (show 4 * q + 2 < 2 ^ 31 by omega)]
  refine lv_aload_n hx hb dL_law_899 rfl (lv_at hl 4 rfl) ?_
  refine kk_i (vx_runSW (As := [.ref (ad 0), .int (xs (4 * q + 1)), .int (xs (4 * q + 2)), .ref (ad 2100)]) (rest := []) ⟨hx, hb, hml, hown, hts⟩ (k_L_slotOf l hnt D _ ad w S nT nC nD nM nZ hC hN fo ho (xs (4 * q + 1)) (xs (4 * q + 2))) (vx_cwSW 4 hts gL_law_L_slotOf rfl rfl rfl (by decide +kernel) ⟨Nat.le_of_ble_eq_true rfl, Nat.le_of_ble_eq_true rfl⟩) (kSt hE hW _) rfl rfl hl.1 rfl (lv_room (Nat.le_of_ble_eq_true rfl)) dL_law_900 ⟨show C + 8 ≤ 601024 by omega, show T + 60 ≤ 7293033 by omega⟩) hW (fun r4 ad1 w2 H5 locs hp3 hW => ?_)
  obtain ⟨e1, ⟨nT1, nC1, nD1, nM1, nZ1, hC1, hN1, hc1, hm1⟩, ⟨f1, ho1, hf1⟩, hw1, ha1, h01⟩ := hp3
  subst e1
  have a6 : ad1 0 = ad 0 := h01
  have a7 : ad1 2000 = ad 2000 := ha1 2000 (by decide)
  have a8 : ad1 2100 = ad 2100 := ha1 2100 (by decide)
  rw [← a6, ← a7, ← a8] at hl
  have hM1 : MW D S ad1 w2 w2 := hM.mv (fun k a b => hw1 k a (by omega)) (fun k a b => ha1 k a)
  refine lv_istore (lv' := [(5, .int (soK (xs (4 * q + 1)) (xs (4 * q + 2)))), (4, .int (nI (4 * q))), (0, .ref b), (1, .ref (ad1 0)), (2, .ref (ad1 2000)), (3, .ref (ad1 2100))]) hx hb dL_law_903 hl (by decide) rfl (fun ls hl => ?_)
  refine lv_aload_n hx hb dL_law_905 rfl (lv_at hl 4 rfl) ?_
  refine lv_aload_n hx hb dL_law_906 rfl (lv_at hl 2 rfl) ?_
  refine lv_iload hx hb dL_law_907 (lv_at hl 1 rfl) ?_
  refine lv_iconst (v := 1) hx hb dL_law_909 (by decide) ?_
  refine lv_iadd hx hb dL_law_910 ?_
  rw [show nI (4 * q) + 1 = nI (4 * q + 1) from nI_add _ 1]
  refine va_sld hx hb hX hbl hbA hW.2.2.1 (vp_in_nI (show 4 * q + 1 < L by omega) (by omega)) dL_law_911 ?_
  rw [nI_clamp (show 4 * q + 1 < 2 ^ 31 by omega)]
  refine lv_aload_n hx hb dL_law_912 rfl (lv_at hl 2 rfl) ?_
  refine lv_iload hx hb dL_law_913 (lv_at hl 1 rfl) ?_
  refine lv_iconst (v := 2) hx hb dL_law_915 (by decide) ?_
  refine lv_iadd hx hb dL_law_916 ?_
  rw [show nI (4 * q) + 2 = nI (4 * q + 2) from nI_add _ 2]
  refine va_sld hx hb hX hbl hbA hW.2.2.1 (vp_in_nI (show 4 * q + 2 < L by omega) (by omega)) dL_law_917 ?_
  rw [nI_clamp (show 4 * q + 2 < 2 ^ 31 by omega)]
  refine kk_i (va_runV (As := [.int (xs (4 * q + 1)), .int (xs (4 * q + 2))]) (rest := []) ⟨hx, hb, hml, hown, hts⟩ (c_slotOf l D _ ad1 w2 S hM1 (xs (4 * q + 1)) (xs (4 * q + 2)) ) (cwV 2 hts gL_law_X6_slotOf rfl rfl rfl (by decide +kernel) ⟨Nat.le_of_ble_eq_true rfl, Nat.le_of_ble_eq_true rfl⟩) (kV hE hW hM1.o rfl _) rfl rfl hl.1 rfl (lv_room (Nat.le_of_ble_eq_true rfl)) dL_law_918 ⟨show C + 8 ≤ 601024 by omega, show T + 60 ≤ 7293033 by omega⟩) hW (fun r12 ad9 w10 H13 locs hp11 hW => ?_)
  obtain ⟨e2, e3, hM2⟩ := hp11
  rw [e3] at hW
  subst e2
  have ho2 : w10 2100 = _ := (hM2.fr 2100 (by omega)).trans ho1
  refine lv_istore (lv' := [(6, .int (soR S (xs (4 * q + 1)) (xs (4 * q + 2)))), (5, .int (soK (xs (4 * q + 1)) (xs (4 * q + 2)))), (4, .int (nI (4 * q))), (0, .ref b), (1, .ref (ad1 0)), (2, .ref (ad1 2000)), (3, .ref (ad1 2100))]) hx hb dL_law_921 hl (by decide) rfl (fun ls hl => ?_)
  refine lv_aload_n hx hb dL_law_923 rfl (lv_at hl 5 rfl) ?_
  refine kk_i (va_runV (As := []) (rest := []) ⟨hx, hb, hml, hown, hts⟩ (c_thrown l D _ ad1 w10 (sS S 17 (soK (xs (4 * q + 1)) (xs (4 * q + 2)))) hM2.re) (cwV 0 hts gL_law_X6_thrown rfl rfl rfl (by decide +kernel) ⟨Nat.le_of_ble_eq_true rfl, Nat.le_of_ble_eq_true rfl⟩) (kV hE hW hM2.o rfl _) rfl rfl hl.1 rfl (lv_room (Nat.le_of_ble_eq_true rfl)) dL_law_924 ⟨show C + 8 ≤ 601024 by omega, show T + 60 ≤ 7293033 by omega⟩) hW (fun r17 ad14 w15 H18 locs hp16 hW => ?_)
  obtain ⟨e4, e5, e6⟩ := hp16
  rw [e5, e6] at hW
  subst e4
  rw [show (sS S 17 (soK (xs (4 * q + 1)) (xs (4 * q + 2)))) 17 0 = soK (xs (4 * q + 1)) (xs (4 * q + 2)) from no17]
  refine lv_iload hx hb dL_law_927 (lv_at hl 1 rfl) ?_
  refine lv_icmp_eq (tgt := 934) hx hb dL_law_929 (by decide) (fun _ => ?_) (fun c9 => absurd (rfl) c9)
  refine lv_iload hx hb dL_law_934 (lv_at hl 1 rfl) ?_
  refine lv_if_ne (tgt := 951) hx hb dL_law_936 (by decide) (fun c19 => ?_) (fun c19 => ?_)
  · refine lv_goto (tgt := 1068) hx hb dL_law_951 (by decide) ?_
    refine W.widen (k := C + 10) (n := T + 2100) (by omega) (by omega) ?_
    exact K _ _ _ _ _ ⟨nT1, nC1, nD1, nM1, nZ1, f1, hC1.fr hN1 (fun k hk => hM2.fr k (by omega)) (fun _ _ => rfl), hN1, by omega, by omega, hM2.re, ho2, hW⟩ ls (lv_sub hl [2, 3, 4, 5, 6] rfl)
  · refine lv_aload_n hx hb dL_law_939 rfl (lv_at hl 6 rfl) ?_
    refine lv_iconst (v := 0) hx hb dL_law_940 (by decide) ?_
    refine kk_lald hx hb hE hW ho2 (by unfold vp_in; decide) dL_law_941 ?_
    rw [show f1 (0 : Int32).toNatClampNeg = (soR S (xs (4 * q + 1)) (xs (4 * q + 2))).toInt64 from hf1 c19]
    refine lv_iload hx hb dL_law_942 (lv_at hl 0 rfl) ?_
    refine lv_i2l hx hb dL_law_944 rfl ?_
    refine W.lcmp hx hb dL_law_945 ?_
    rw [lg_self]
    refine lv_if_eq (tgt := 951) hx hb dL_law_946 (by decide) (fun _ => ?_) (fun c9 => absurd (rfl) c9)
    refine lv_goto (tgt := 1068) hx hb dL_law_951 (by decide) ?_
    refine W.widen (k := C + 10) (n := T + 2100) (by omega) (by omega) ?_
    exact K _ _ _ _ _ ⟨nT1, nC1, nD1, nM1, nZ1, f1, hC1.fr hN1 (fun k hk => hM2.fr k (by omega)) (fun _ _ => rfl), hN1, by omega, by omega, hM2.re, ho2, hW⟩ ls (lv_sub hl [2, 3, 4, 5, 6] rfl)

set_option maxHeartbeats 4000000 in
set_option maxRecDepth 100000 in
theorem law_isMarked {p : Program} {l : Launch} {e : Env} {s : State} {m : MethodId} {below : List Frame} {meth : Method} {c : Code} {b L : Nat} {xs : Nat → Int32} (hnt : l.stackTraces = false) (C0 : lw_At p s m meth c b L xs) {D : va_G} (hE : kE D (fun q : Nat => s.heap.size ≤ q) s) {q C T : Nat} (hq : 4 * q + 4 ≤ L) (hL : L ≤ 2048) (hCb : C + 10 ≤ 601024) (hTb : T + 2100 ≤ 7293033) {S : St} {ad : Nat → Nat} {w : kWd} {H : Heap} {locs : List Loc} (hI : LI D (fun q : Nat => s.heap.size ≤ q) s q S ad w H locs) (K : LK p l e s m below meth c b D (fun q : Nat => s.heap.size ≤ q) q C T 1068) {ls : Array Slot} (hl : lv_has ls 7 [(4, .int (nI (4 * q))), (0, .ref b), (1, .ref (ad 0)), (2, .ref (ad 2000)), (3, .ref (ad 2100))]) : W p l e room_1 s m #[Value.ref b] below meth c H locs (C) (T) (lw_Z below #[Value.ref b] s) (F0 m 954 ls []) := by
  obtain ⟨hx, hb, hr, hml, hown0, hts0, hX, hbl, hlocks, hgv⟩ := id C0
  have hbA : ¬ (fun q : Nat => s.heap.size ≤ q) b := Nat.not_le.mpr hbl
  have hown : s.vm.findClass RL = some m.cls := hown0
  have hts : ∀ w ∈ wsL_law, w.before #[Value.ref b] s = true := fun w h => hts0 w (wsL_law_in w h)
  obtain ⟨nT, nC, nD, nM, nZ, fo, hC, hN, hnC, hnM, hM, ho, hW⟩ := hI
  have h60 := hN.2.2.2.2.2.1
  have h512 := hN.2.2.2.2.2.2.1
  have hd := hN.2.2.2.2.2.2.2.1
  have hz1 := hN.2.2.2.2.2.2.2.2.2.1
  have hz30 := hN.2.2.2.2.2.2.2.2.2.2.1
  have hby : ∀ k, k < nC → vp_in (S 4 k) 60 := fun k hk => by obtain ⟨t, ht, h4⟩ := hN.by hk; rw [h4]; exact vp_in_nI (by omega) (by decide)
  have hro : ∀ k, k < nC → vp_in (S 5 k) 12 := fun k hk => by obtain ⟨t, ht, h4⟩ := hN.ro hk; rw [h4]; exact vp_in_nI (by omega) (by decide)
  have hsl : ∀ k, k < 6 → S 8 k ≠ -1 → vp_in (S 8 k) 60 := fun k hk h => by
    rcases hN.sl hk with h8 | ⟨t, ht, h8⟩
    · exact absurd h8 h
    · rw [h8]; exact vp_in_nI (by omega) (by decide)
  refine lv_aload_n hx hb dL_law_954 rfl (lv_at hl 2 rfl) ?_
  refine lv_aload_n hx hb dL_law_955 rfl (lv_at hl 1 rfl) ?_
  refine lv_iload hx hb dL_law_956 (lv_at hl 0 rfl) ?_
  refine lv_iconst (v := 1) hx hb dL_law_958 (by decide) ?_
  refine lv_iadd hx hb dL_law_959 ?_
  rw [show nI (4 * q) + 1 = nI (4 * q + 1) from nI_add _ 1]
  refine va_sld hx hb hX hbl hbA hW.2.2.1 (vp_in_nI (show 4 * q + 1 < L by omega) (by omega)) dL_law_960 ?_
  rw [nI_clamp (show 4 * q + 1 < 2 ^ 31 by omega)]
  refine lv_aload_n hx hb dL_law_961 rfl (lv_at hl 1 rfl) ?_
  refine lv_iload hx hb dL_law_962 (lv_at hl 0 rfl) ?_
  refine lv_iconst (v := 2) hx hb dL_law_964 (by decide) ?_
  refine lv_iadd hx hb dL_law_965 ?_
  rw [show nI (4 * q) + 2 = nI (4 * q + 2) from nI_add _ 2]
  refine va_sld hx hb hX hbl hbA hW.2.2.1 (vp_in_nI (show 4 * q + 2 < L by omega) (by omega)) dL_law_966 ?_
  rw [nI_clamp (show 4 * q + 2 < 2 ^ 31 by omega)]
  refine lv_aload_n hx hb dL_law_967 rfl (lv_at hl 4 rfl) ?_
  refine kk_i (vx_runSW (As := [.ref (ad 0), .int (xs (4 * q + 1)), .int (xs (4 * q + 2)), .ref (ad 2100)]) (rest := []) ⟨hx, hb, hml, hown, hts⟩ (k_L_isMarked l hnt D _ ad w S nT nC nD nM nZ hC hN fo ho (xs (4 * q + 1)) (xs (4 * q + 2))) (vx_cwSW 4 hts gL_law_L_isMarked rfl rfl rfl (by decide +kernel) ⟨Nat.le_of_ble_eq_true rfl, Nat.le_of_ble_eq_true rfl⟩) (kSt hE hW _) rfl rfl hl.1 rfl (lv_room (Nat.le_of_ble_eq_true rfl)) dL_law_968 ⟨show C + 8 ≤ 601024 by omega, show T + 60 ≤ 7293033 by omega⟩) hW (fun r4 ad1 w2 H5 locs hp3 hW => ?_)
  obtain ⟨e1, ⟨nT1, nC1, nD1, nM1, nZ1, hC1, hN1, hc1, hm1⟩, ⟨f1, ho1, hf1⟩, hw1, ha1, h01⟩ := hp3
  subst e1
  have a6 : ad1 0 = ad 0 := h01
  have a7 : ad1 2000 = ad 2000 := ha1 2000 (by decide)
  have a8 : ad1 2100 = ad 2100 := ha1 2100 (by decide)
  rw [← a6, ← a7, ← a8] at hl
  have hM1 : MW D S ad1 w2 w2 := hM.mv (fun k a b => hw1 k a (by omega)) (fun k a b => ha1 k a)
  refine lv_istore (lv' := [(5, .int (soK (xs (4 * q + 1)) (xs (4 * q + 2)))), (4, .int (nI (4 * q))), (0, .ref b), (1, .ref (ad1 0)), (2, .ref (ad1 2000)), (3, .ref (ad1 2100))]) hx hb dL_law_971 hl (by decide) rfl (fun ls hl => ?_)
  refine lv_aload_n hx hb dL_law_973 rfl (lv_at hl 4 rfl) ?_
  refine lv_aload_n hx hb dL_law_974 rfl (lv_at hl 2 rfl) ?_
  refine lv_iload hx hb dL_law_975 (lv_at hl 1 rfl) ?_
  refine lv_iconst (v := 1) hx hb dL_law_977 (by decide) ?_
  refine lv_iadd hx hb dL_law_978 ?_
  rw [show nI (4 * q) + 1 = nI (4 * q + 1) from nI_add _ 1]
  refine va_sld hx hb hX hbl hbA hW.2.2.1 (vp_in_nI (show 4 * q + 1 < L by omega) (by omega)) dL_law_979 ?_
  rw [nI_clamp (show 4 * q + 1 < 2 ^ 31 by omega)]
  refine lv_aload_n hx hb dL_law_980 rfl (lv_at hl 2 rfl) ?_
  refine lv_iload hx hb dL_law_981 (lv_at hl 1 rfl) ?_
  refine lv_iconst (v := 2) hx hb dL_law_983 (by decide) ?_
  refine lv_iadd hx hb dL_law_984 ?_
  rw [show nI (4 * q) + 2 = nI (4 * q + 2) from nI_add _ 2]
  refine va_sld hx hb hX hbl hbA hW.2.2.1 (vp_in_nI (show 4 * q + 2 < L by omega) (by omega)) dL_law_985 ?_
  rw [nI_clamp (show 4 * q + 2 < 2 ^ 31 by omega)]
  refine kk_i (va_runV (As := [.int (xs (4 * q + 1)), .int (xs (4 * q + 2))]) (rest := []) ⟨hx, hb, hml, hown, hts⟩ (c_isMarked l D _ ad1 w2 S hM1 (xs (4 * q + 1)) (xs (4 * q + 2)) ) (cwV 2 hts gL_law_X6_isMarked rfl rfl rfl (by decide +kernel) ⟨Nat.le_of_ble_eq_true rfl, Nat.le_of_ble_eq_true rfl⟩) (kV hE hW hM1.o rfl _) rfl rfl hl.1 rfl (lv_room (Nat.le_of_ble_eq_true rfl)) dL_law_986 ⟨show C + 8 ≤ 601024 by omega, show T + 60 ≤ 7293033 by omega⟩) hW (fun r12 ad9 w10 H13 locs hp11 hW => ?_)
  obtain ⟨e2, e3, hM2⟩ := hp11
  rw [e3] at hW
  subst e2
  have ho2 : w10 2100 = _ := (hM2.fr 2100 (by omega)).trans ho1
  refine lv_istore (lv' := [(6, .int (imR S (xs (4 * q + 1)) (xs (4 * q + 2)))), (5, .int (soK (xs (4 * q + 1)) (xs (4 * q + 2)))), (4, .int (nI (4 * q))), (0, .ref b), (1, .ref (ad1 0)), (2, .ref (ad1 2000)), (3, .ref (ad1 2100))]) hx hb dL_law_989 hl (by decide) rfl (fun ls hl => ?_)
  refine lv_aload_n hx hb dL_law_991 rfl (lv_at hl 5 rfl) ?_
  refine kk_i (va_runV (As := []) (rest := []) ⟨hx, hb, hml, hown, hts⟩ (c_thrown l D _ ad1 w10 (sS S 17 (soK (xs (4 * q + 1)) (xs (4 * q + 2)))) hM2.re) (cwV 0 hts gL_law_X6_thrown rfl rfl rfl (by decide +kernel) ⟨Nat.le_of_ble_eq_true rfl, Nat.le_of_ble_eq_true rfl⟩) (kV hE hW hM2.o rfl _) rfl rfl hl.1 rfl (lv_room (Nat.le_of_ble_eq_true rfl)) dL_law_992 ⟨show C + 8 ≤ 601024 by omega, show T + 60 ≤ 7293033 by omega⟩) hW (fun r17 ad14 w15 H18 locs hp16 hW => ?_)
  obtain ⟨e4, e5, e6⟩ := hp16
  rw [e5, e6] at hW
  subst e4
  rw [show (sS S 17 (soK (xs (4 * q + 1)) (xs (4 * q + 2)))) 17 0 = soK (xs (4 * q + 1)) (xs (4 * q + 2)) from no17]
  refine lv_iload hx hb dL_law_995 (lv_at hl 1 rfl) ?_
  refine lv_icmp_eq (tgt := 1002) hx hb dL_law_997 (by decide) (fun _ => ?_) (fun c9 => absurd (rfl) c9)
  refine lv_iload hx hb dL_law_1002 (lv_at hl 1 rfl) ?_
  refine lv_if_ne (tgt := 1026) hx hb dL_law_1004 (by decide) (fun c19 => ?_) (fun c19 => ?_)
  · refine lv_goto (tgt := 1068) hx hb dL_law_1026 (by decide) ?_
    refine W.widen (k := C + 10) (n := T + 2100) (by omega) (by omega) ?_
    exact K _ _ _ _ _ ⟨nT1, nC1, nD1, nM1, nZ1, f1, hC1.fr hN1 (fun k hk => hM2.fr k (by omega)) (fun _ _ => rfl), hN1, by omega, by omega, hM2.re, ho2, hW⟩ ls (lv_sub hl [2, 3, 4, 5, 6] rfl)
  · refine lv_aload_n hx hb dL_law_1007 rfl (lv_at hl 6 rfl) ?_
    refine lv_iconst (v := 0) hx hb dL_law_1008 (by decide) ?_
    refine kk_lald hx hb hE hW ho2 (by unfold vp_in; decide) dL_law_1009 ?_
    rw [show f1 (0 : Int32).toNatClampNeg = (imR S (xs (4 * q + 1)) (xs (4 * q + 2))).toInt64 from hf1 c19]
    refine lv_iload hx hb dL_law_1010 (lv_at hl 0 rfl) ?_
    refine lv_if_eq (tgt := 1019) hx hb dL_law_1012 (by decide) (fun c20 => ?_) (fun c20 => ?_)
    · rw [show (imR S (xs (4 * q + 1)) (xs (4 * q + 2))).toInt64 = 0 from by rw [c20]; rfl]
      refine lv_lconst (v := 0) hx hb dL_law_1019 (by decide) ?_
      refine W.lcmp hx hb dL_law_1020 ?_
      rw [lg_self]
      refine lv_if_eq (tgt := 1026) hx hb dL_law_1021 (by decide) (fun _ => ?_) (fun c9 => absurd (rfl) c9)
      refine lv_goto (tgt := 1068) hx hb dL_law_1026 (by decide) ?_
      refine W.widen (k := C + 10) (n := T + 2100) (by omega) (by omega) ?_
      exact K _ _ _ _ _ ⟨nT1, nC1, nD1, nM1, nZ1, f1, hC1.fr hN1 (fun k hk => hM2.fr k (by omega)) (fun _ _ => rfl), hN1, by omega, by omega, hM2.re, ho2, hW⟩ ls (lv_sub hl [2, 3, 4, 5, 6] rfl)
    · rw [show (imR S (xs (4 * q + 1)) (xs (4 * q + 2))).toInt64 = 1 from by rw [show imR S (xs (4 * q + 1)) (xs (4 * q + 2)) = 1 from bI_01.resolve_left c20]; rfl]
      refine lv_lconst (v := 1) hx hb dL_law_1015 (by decide) ?_
      refine lv_goto (tgt := 1020) hx hb dL_law_1016 (by decide) ?_
      refine W.lcmp hx hb dL_law_1020 ?_
      rw [lg_self]
      refine lv_if_eq (tgt := 1026) hx hb dL_law_1021 (by decide) (fun _ => ?_) (fun c9 => absurd (rfl) c9)
      refine lv_goto (tgt := 1068) hx hb dL_law_1026 (by decide) ?_
      refine W.widen (k := C + 10) (n := T + 2100) (by omega) (by omega) ?_
      exact K _ _ _ _ _ ⟨nT1, nC1, nD1, nM1, nZ1, f1, hC1.fr hN1 (fun k hk => hM2.fr k (by omega)) (fun _ _ => rfl), hN1, by omega, by omega, hM2.re, ho2, hW⟩ ls (lv_sub hl [2, 3, 4, 5, 6] rfl)

set_option maxHeartbeats 4000000 in
set_option maxRecDepth 100000 in
theorem law_moment {p : Program} {l : Launch} {e : Env} {s : State} {m : MethodId} {below : List Frame} {meth : Method} {c : Code} {b L : Nat} {xs : Nat → Int32} (hnt : l.stackTraces = false) (C0 : lw_At p s m meth c b L xs) {D : va_G} (hE : kE D (fun q : Nat => s.heap.size ≤ q) s) {q C T : Nat} (hq : 4 * q + 4 ≤ L) (hL : L ≤ 2048) (hCb : C + 10 ≤ 601024) (hTb : T + 2100 ≤ 7293033) {S : St} {ad : Nat → Nat} {w : kWd} {H : Heap} {locs : List Loc} (hI : LI D (fun q : Nat => s.heap.size ≤ q) s q S ad w H locs) (K : LK p l e s m below meth c b D (fun q : Nat => s.heap.size ≤ q) q C T 1068) {ls : Array Slot} (hl : lv_has ls 7 [(4, .int (nI (4 * q))), (0, .ref b), (1, .ref (ad 0)), (2, .ref (ad 2000)), (3, .ref (ad 2100))]) : W p l e room_1 s m #[Value.ref b] below meth c H locs (C) (T) (lw_Z below #[Value.ref b] s) (F0 m 680 ls []) := by
  obtain ⟨hx, hb, hr, hml, hown0, hts0, hX, hbl, hlocks, hgv⟩ := id C0
  have hbA : ¬ (fun q : Nat => s.heap.size ≤ q) b := Nat.not_le.mpr hbl
  have hown : s.vm.findClass RL = some m.cls := hown0
  have hts : ∀ w ∈ wsL_law, w.before #[Value.ref b] s = true := fun w h => hts0 w (wsL_law_in w h)
  obtain ⟨nT, nC, nD, nM, nZ, fo, hC, hN, hnC, hnM, hM, ho, hW⟩ := hI
  have h60 := hN.2.2.2.2.2.1
  have h512 := hN.2.2.2.2.2.2.1
  have hd := hN.2.2.2.2.2.2.2.1
  have hz1 := hN.2.2.2.2.2.2.2.2.2.1
  have hz30 := hN.2.2.2.2.2.2.2.2.2.2.1
  have hby : ∀ k, k < nC → vp_in (S 4 k) 60 := fun k hk => by obtain ⟨t, ht, h4⟩ := hN.by hk; rw [h4]; exact vp_in_nI (by omega) (by decide)
  have hro : ∀ k, k < nC → vp_in (S 5 k) 12 := fun k hk => by obtain ⟨t, ht, h4⟩ := hN.ro hk; rw [h4]; exact vp_in_nI (by omega) (by decide)
  have hsl : ∀ k, k < 6 → S 8 k ≠ -1 → vp_in (S 8 k) 60 := fun k hk h => by
    rcases hN.sl hk with h8 | ⟨t, ht, h8⟩
    · exact absurd h8 h
    · rw [h8]; exact vp_in_nI (by omega) (by decide)
  refine lv_aload_n hx hb dL_law_680 rfl (lv_at hl 2 rfl) ?_
  refine kk_i (va_runV (As := []) (rest := []) ⟨hx, hb, hml, hown, hts⟩ (k_X5_moment l D _ ad w S nT nC nD nM nZ hC hN) (cwV 0 hts gL_law_X5_moment rfl rfl rfl (by decide +kernel) ⟨Nat.le_of_ble_eq_true rfl, Nat.le_of_ble_eq_true rfl⟩) (kV hE hW hC.u rfl _) rfl rfl hl.1 rfl (lv_room (Nat.le_of_ble_eq_true rfl)) dL_law_681 ⟨show C + 0 ≤ 601024 by omega, show T + 0 ≤ 7293033 by omega⟩) hW (fun r4 ad1 w2 H5 locs hp3 hW => ?_)
  obtain ⟨e1, e2, e3⟩ := hp3
  rw [e2, e3] at hW
  subst e1
  refine lv_aload_n hx hb dL_law_684 rfl (lv_at hl 3 rfl) ?_
  refine kk_i (va_runV (As := []) (rest := [.int (S 11 0)]) ⟨hx, hb, hml, hown, hts⟩ (c_moment l D _ ad w S hM) (cwV 0 hts gL_law_X6_moment rfl rfl rfl (by decide +kernel) ⟨Nat.le_of_ble_eq_true rfl, Nat.le_of_ble_eq_true rfl⟩) (kV hE hW hM.o rfl _) rfl rfl hl.1 rfl (lv_room (Nat.le_of_ble_eq_true rfl)) dL_law_685 ⟨show C + 0 ≤ 601024 by omega, show T + 0 ≤ 7293033 by omega⟩) hW (fun r9 ad6 w7 H10 locs hp8 hW => ?_)
  obtain ⟨e4, e5, hM2⟩ := hp8
  rw [e5] at hW
  subst e4
  refine lv_icmp_eq (tgt := 1068) hx hb dL_law_688 (by decide) (fun _ => ?_) (fun c9 => absurd (rfl) c9)
  refine W.widen (k := C + 10) (n := T + 2100) (by omega) (by omega) ?_
  exact K _ _ _ _ _ ⟨nT, nC, nD, nM, nZ, fo, hC.s17.fr hN.s17 (fun k hk => hM2.fr k (by omega)) (fun _ _ => rfl), hN.s17, by omega, by omega, hM2.re, (hM2.fr 2100 (by omega)).trans ho, hW⟩ ls (lv_sub hl [0, 1, 2, 3, 4] rfl)

set_option maxHeartbeats 4000000 in
set_option maxRecDepth 100000 in
theorem law_transactions {p : Program} {l : Launch} {e : Env} {s : State} {m : MethodId} {below : List Frame} {meth : Method} {c : Code} {b L : Nat} {xs : Nat → Int32} (hnt : l.stackTraces = false) (C0 : lw_At p s m meth c b L xs) {D : va_G} (hE : kE D (fun q : Nat => s.heap.size ≤ q) s) {q C T : Nat} (hq : 4 * q + 4 ≤ L) (hL : L ≤ 2048) (hCb : C + 10 ≤ 601024) (hTb : T + 2100 ≤ 7293033) {S : St} {ad : Nat → Nat} {w : kWd} {H : Heap} {locs : List Loc} (hI : LI D (fun q : Nat => s.heap.size ≤ q) s q S ad w H locs) (K : LK p l e s m below meth c b D (fun q : Nat => s.heap.size ≤ q) q C T 1068) {ls : Array Slot} (hl : lv_has ls 7 [(4, .int (nI (4 * q))), (0, .ref b), (1, .ref (ad 0)), (2, .ref (ad 2000)), (3, .ref (ad 2100))]) : W p l e room_1 s m #[Value.ref b] below meth c H locs (C) (T) (lw_Z below #[Value.ref b] s) (F0 m 693 ls []) := by
  obtain ⟨hx, hb, hr, hml, hown0, hts0, hX, hbl, hlocks, hgv⟩ := id C0
  have hbA : ¬ (fun q : Nat => s.heap.size ≤ q) b := Nat.not_le.mpr hbl
  have hown : s.vm.findClass RL = some m.cls := hown0
  have hts : ∀ w ∈ wsL_law, w.before #[Value.ref b] s = true := fun w h => hts0 w (wsL_law_in w h)
  obtain ⟨nT, nC, nD, nM, nZ, fo, hC, hN, hnC, hnM, hM, ho, hW⟩ := hI
  have h60 := hN.2.2.2.2.2.1
  have h512 := hN.2.2.2.2.2.2.1
  have hd := hN.2.2.2.2.2.2.2.1
  have hz1 := hN.2.2.2.2.2.2.2.2.2.1
  have hz30 := hN.2.2.2.2.2.2.2.2.2.2.1
  have hby : ∀ k, k < nC → vp_in (S 4 k) 60 := fun k hk => by obtain ⟨t, ht, h4⟩ := hN.by hk; rw [h4]; exact vp_in_nI (by omega) (by decide)
  have hro : ∀ k, k < nC → vp_in (S 5 k) 12 := fun k hk => by obtain ⟨t, ht, h4⟩ := hN.ro hk; rw [h4]; exact vp_in_nI (by omega) (by decide)
  have hsl : ∀ k, k < 6 → S 8 k ≠ -1 → vp_in (S 8 k) 60 := fun k hk h => by
    rcases hN.sl hk with h8 | ⟨t, ht, h8⟩
    · exact absurd h8 h
    · rw [h8]; exact vp_in_nI (by omega) (by decide)
  refine lv_aload_n hx hb dL_law_693 rfl (lv_at hl 2 rfl) ?_
  refine kk_i (va_runV (As := []) (rest := []) ⟨hx, hb, hml, hown, hts⟩ (k_X5_transactions l D _ ad w S nT nC nD nM nZ hC hN) (cwV 0 hts gL_law_X5_transactions rfl rfl rfl (by decide +kernel) ⟨Nat.le_of_ble_eq_true rfl, Nat.le_of_ble_eq_true rfl⟩) (kV hE hW hC.u rfl _) rfl rfl hl.1 rfl (lv_room (Nat.le_of_ble_eq_true rfl)) dL_law_694 ⟨show C + 0 ≤ 601024 by omega, show T + 0 ≤ 7293033 by omega⟩) hW (fun r4 ad1 w2 H5 locs hp3 hW => ?_)
  obtain ⟨e1, e2, e3⟩ := hp3
  rw [e2, e3] at hW
  subst e1
  refine lv_aload_n hx hb dL_law_697 rfl (lv_at hl 3 rfl) ?_
  refine kk_i (va_runV (As := []) (rest := [.int (S 12 0)]) ⟨hx, hb, hml, hown, hts⟩ (c_transactions l D _ ad w S hM) (cwV 0 hts gL_law_X6_transactions rfl rfl rfl (by decide +kernel) ⟨Nat.le_of_ble_eq_true rfl, Nat.le_of_ble_eq_true rfl⟩) (kV hE hW hM.o rfl _) rfl rfl hl.1 rfl (lv_room (Nat.le_of_ble_eq_true rfl)) dL_law_698 ⟨show C + 0 ≤ 601024 by omega, show T + 0 ≤ 7293033 by omega⟩) hW (fun r9 ad6 w7 H10 locs hp8 hW => ?_)
  obtain ⟨e4, e5, hM2⟩ := hp8
  rw [e5] at hW
  subst e4
  refine lv_icmp_eq (tgt := 1068) hx hb dL_law_701 (by decide) (fun _ => ?_) (fun c9 => absurd (rfl) c9)
  refine W.widen (k := C + 10) (n := T + 2100) (by omega) (by omega) ?_
  exact K _ _ _ _ _ ⟨nT, nC, nD, nM, nZ, fo, hC.s17.fr hN.s17 (fun k hk => hM2.fr k (by omega)) (fun _ _ => rfl), hN.s17, by omega, by omega, hM2.re, (hM2.fr 2100 (by omega)).trans ho, hW⟩ ls (lv_sub hl [0, 1, 2, 3, 4] rfl)

set_option maxHeartbeats 4000000 in
set_option maxRecDepth 100000 in
theorem law_marked {p : Program} {l : Launch} {e : Env} {s : State} {m : MethodId} {below : List Frame} {meth : Method} {c : Code} {b L : Nat} {xs : Nat → Int32} (hnt : l.stackTraces = false) (C0 : lw_At p s m meth c b L xs) {D : va_G} (hE : kE D (fun q : Nat => s.heap.size ≤ q) s) {q C T : Nat} (hq : 4 * q + 4 ≤ L) (hL : L ≤ 2048) (hCb : C + 10 ≤ 601024) (hTb : T + 2100 ≤ 7293033) {S : St} {ad : Nat → Nat} {w : kWd} {H : Heap} {locs : List Loc} (hI : LI D (fun q : Nat => s.heap.size ≤ q) s q S ad w H locs) (K : LK p l e s m below meth c b D (fun q : Nat => s.heap.size ≤ q) q C T 1068) {ls : Array Slot} (hl : lv_has ls 7 [(4, .int (nI (4 * q))), (0, .ref b), (1, .ref (ad 0)), (2, .ref (ad 2000)), (3, .ref (ad 2100))]) : W p l e room_1 s m #[Value.ref b] below meth c H locs (C) (T) (lw_Z below #[Value.ref b] s) (F0 m 1029 ls []) := by
  obtain ⟨hx, hb, hr, hml, hown0, hts0, hX, hbl, hlocks, hgv⟩ := id C0
  have hbA : ¬ (fun q : Nat => s.heap.size ≤ q) b := Nat.not_le.mpr hbl
  have hown : s.vm.findClass RL = some m.cls := hown0
  have hts : ∀ w ∈ wsL_law, w.before #[Value.ref b] s = true := fun w h => hts0 w (wsL_law_in w h)
  obtain ⟨nT, nC, nD, nM, nZ, fo, hC, hN, hnC, hnM, hM, ho, hW⟩ := hI
  have h60 := hN.2.2.2.2.2.1
  have h512 := hN.2.2.2.2.2.2.1
  have hd := hN.2.2.2.2.2.2.2.1
  have hz1 := hN.2.2.2.2.2.2.2.2.2.1
  have hz30 := hN.2.2.2.2.2.2.2.2.2.2.1
  have hby : ∀ k, k < nC → vp_in (S 4 k) 60 := fun k hk => by obtain ⟨t, ht, h4⟩ := hN.by hk; rw [h4]; exact vp_in_nI (by omega) (by decide)
  have hro : ∀ k, k < nC → vp_in (S 5 k) 12 := fun k hk => by obtain ⟨t, ht, h4⟩ := hN.ro hk; rw [h4]; exact vp_in_nI (by omega) (by decide)
  have hsl : ∀ k, k < 6 → S 8 k ≠ -1 → vp_in (S 8 k) 60 := fun k hk h => by
    rcases hN.sl hk with h8 | ⟨t, ht, h8⟩
    · exact absurd h8 h
    · rw [h8]; exact vp_in_nI (by omega) (by decide)
  refine lv_aload_n hx hb dL_law_1029 rfl (lv_at hl 2 rfl) ?_
  refine kk_i (va_runV (As := []) (rest := []) ⟨hx, hb, hml, hown, hts⟩ (k_X5_marked l D _ ad w S nT nC nD nM nZ hC hN) (cwV 0 hts gL_law_X5_marked rfl rfl rfl (by decide +kernel) ⟨Nat.le_of_ble_eq_true rfl, Nat.le_of_ble_eq_true rfl⟩) (kV hE hW hC.u rfl _) rfl rfl hl.1 rfl (lv_room (Nat.le_of_ble_eq_true rfl)) dL_law_1030 ⟨show C + 0 ≤ 601024 by omega, show T + 0 ≤ 7293033 by omega⟩) hW (fun r4 ad1 w2 H5 locs hp3 hW => ?_)
  obtain ⟨e1, e2, e3⟩ := hp3
  rw [e2, e3] at hW
  subst e1
  refine lv_aload_n hx hb dL_law_1033 rfl (lv_at hl 3 rfl) ?_
  refine kk_i (va_runV (As := []) (rest := [.int (S 15 0)]) ⟨hx, hb, hml, hown, hts⟩ (c_marked l D _ ad w S hM) (cwV 0 hts gL_law_X6_marked rfl rfl rfl (by decide +kernel) ⟨Nat.le_of_ble_eq_true rfl, Nat.le_of_ble_eq_true rfl⟩) (kV hE hW hM.o rfl _) rfl rfl hl.1 rfl (lv_room (Nat.le_of_ble_eq_true rfl)) dL_law_1034 ⟨show C + 0 ≤ 601024 by omega, show T + 0 ≤ 7293033 by omega⟩) hW (fun r9 ad6 w7 H10 locs hp8 hW => ?_)
  obtain ⟨e4, e5, hM2⟩ := hp8
  rw [e5] at hW
  subst e4
  refine lv_icmp_eq (tgt := 1068) hx hb dL_law_1037 (by decide) (fun _ => ?_) (fun c9 => absurd (rfl) c9)
  refine W.widen (k := C + 10) (n := T + 2100) (by omega) (by omega) ?_
  exact K _ _ _ _ _ ⟨nT, nC, nD, nM, nZ, fo, hC.s17.fr hN.s17 (fun k hk => hM2.fr k (by omega)) (fun _ _ => rfl), hN.s17, by omega, by omega, hM2.re, (hM2.fr 2100 (by omega)).trans ho, hW⟩ ls (lv_sub hl [0, 1, 2, 3, 4] rfl)

set_option maxHeartbeats 4000000 in
set_option maxRecDepth 100000 in
theorem law_records {p : Program} {l : Launch} {e : Env} {s : State} {m : MethodId} {below : List Frame} {meth : Method} {c : Code} {b L : Nat} {xs : Nat → Int32} (hnt : l.stackTraces = false) (C0 : lw_At p s m meth c b L xs) {D : va_G} (hE : kE D (fun q : Nat => s.heap.size ≤ q) s) {q C T : Nat} (hq : 4 * q + 4 ≤ L) (hL : L ≤ 2048) (hCb : C + 10 ≤ 601024) (hTb : T + 2100 ≤ 7293033) {S : St} {ad : Nat → Nat} {w : kWd} {H : Heap} {locs : List Loc} (hI : LI D (fun q : Nat => s.heap.size ≤ q) s q S ad w H locs) (K : LK p l e s m below meth c b D (fun q : Nat => s.heap.size ≤ q) q C T 1068) {ls : Array Slot} (hl : lv_has ls 7 [(4, .int (nI (4 * q))), (0, .ref b), (1, .ref (ad 0)), (2, .ref (ad 2000)), (3, .ref (ad 2100))]) : W p l e room_1 s m #[Value.ref b] below meth c H locs (C) (T) (lw_Z below #[Value.ref b] s) (F0 m 1042 ls []) := by
  obtain ⟨hx, hb, hr, hml, hown0, hts0, hX, hbl, hlocks, hgv⟩ := id C0
  have hbA : ¬ (fun q : Nat => s.heap.size ≤ q) b := Nat.not_le.mpr hbl
  have hown : s.vm.findClass RL = some m.cls := hown0
  have hts : ∀ w ∈ wsL_law, w.before #[Value.ref b] s = true := fun w h => hts0 w (wsL_law_in w h)
  obtain ⟨nT, nC, nD, nM, nZ, fo, hC, hN, hnC, hnM, hM, ho, hW⟩ := hI
  have h60 := hN.2.2.2.2.2.1
  have h512 := hN.2.2.2.2.2.2.1
  have hd := hN.2.2.2.2.2.2.2.1
  have hz1 := hN.2.2.2.2.2.2.2.2.2.1
  have hz30 := hN.2.2.2.2.2.2.2.2.2.2.1
  have hby : ∀ k, k < nC → vp_in (S 4 k) 60 := fun k hk => by obtain ⟨t, ht, h4⟩ := hN.by hk; rw [h4]; exact vp_in_nI (by omega) (by decide)
  have hro : ∀ k, k < nC → vp_in (S 5 k) 12 := fun k hk => by obtain ⟨t, ht, h4⟩ := hN.ro hk; rw [h4]; exact vp_in_nI (by omega) (by decide)
  have hsl : ∀ k, k < 6 → S 8 k ≠ -1 → vp_in (S 8 k) 60 := fun k hk h => by
    rcases hN.sl hk with h8 | ⟨t, ht, h8⟩
    · exact absurd h8 h
    · rw [h8]; exact vp_in_nI (by omega) (by decide)
  refine lv_aload_n hx hb dL_law_1042 rfl (lv_at hl 2 rfl) ?_
  refine kk_i (va_runV (As := []) (rest := []) ⟨hx, hb, hml, hown, hts⟩ (k_X5_records l D _ ad w S nT nC nD nM nZ hC hN) (cwV 0 hts gL_law_X5_records rfl rfl rfl (by decide +kernel) ⟨Nat.le_of_ble_eq_true rfl, Nat.le_of_ble_eq_true rfl⟩) (kV hE hW hC.u rfl _) rfl rfl hl.1 rfl (lv_room (Nat.le_of_ble_eq_true rfl)) dL_law_1043 ⟨show C + 0 ≤ 601024 by omega, show T + 0 ≤ 7293033 by omega⟩) hW (fun r4 ad1 w2 H5 locs hp3 hW => ?_)
  obtain ⟨e1, e2, e3⟩ := hp3
  rw [e2, e3] at hW
  subst e1
  refine lv_aload_n hx hb dL_law_1046 rfl (lv_at hl 3 rfl) ?_
  refine kk_i (va_runV (As := []) (rest := [.int (S 13 0 - S 14 0)]) ⟨hx, hb, hml, hown, hts⟩ (c_records l D _ ad w S hM) (cwV 0 hts gL_law_X6_records rfl rfl rfl (by decide +kernel) ⟨Nat.le_of_ble_eq_true rfl, Nat.le_of_ble_eq_true rfl⟩) (kV hE hW hM.o rfl _) rfl rfl hl.1 rfl (lv_room (Nat.le_of_ble_eq_true rfl)) dL_law_1047 ⟨show C + 0 ≤ 601024 by omega, show T + 0 ≤ 7293033 by omega⟩) hW (fun r9 ad6 w7 H10 locs hp8 hW => ?_)
  obtain ⟨e4, e5, hM2⟩ := hp8
  rw [e5] at hW
  subst e4
  refine lv_icmp_eq (tgt := 1068) hx hb dL_law_1050 (by decide) (fun _ => ?_) (fun c9 => absurd (rfl) c9)
  refine W.widen (k := C + 10) (n := T + 2100) (by omega) (by omega) ?_
  exact K _ _ _ _ _ ⟨nT, nC, nD, nM, nZ, fo, hC.s17.fr hN.s17 (fun k hk => hM2.fr k (by omega)) (fun _ _ => rfl), hN.s17, by omega, by omega, hM2.re, (hM2.fr 2100 (by omega)).trans ho, hW⟩ ls (lv_sub hl [0, 1, 2, 3, 4] rfl)

set_option maxHeartbeats 4000000 in
set_option maxRecDepth 100000 in
theorem law_dropped {p : Program} {l : Launch} {e : Env} {s : State} {m : MethodId} {below : List Frame} {meth : Method} {c : Code} {b L : Nat} {xs : Nat → Int32} (hnt : l.stackTraces = false) (C0 : lw_At p s m meth c b L xs) {D : va_G} (hE : kE D (fun q : Nat => s.heap.size ≤ q) s) {q C T : Nat} (hq : 4 * q + 4 ≤ L) (hL : L ≤ 2048) (hCb : C + 10 ≤ 601024) (hTb : T + 2100 ≤ 7293033) {S : St} {ad : Nat → Nat} {w : kWd} {H : Heap} {locs : List Loc} (hI : LI D (fun q : Nat => s.heap.size ≤ q) s q S ad w H locs) (K : LK p l e s m below meth c b D (fun q : Nat => s.heap.size ≤ q) q C T 1068) {ls : Array Slot} (hl : lv_has ls 7 [(4, .int (nI (4 * q))), (0, .ref b), (1, .ref (ad 0)), (2, .ref (ad 2000)), (3, .ref (ad 2100))]) : W p l e room_1 s m #[Value.ref b] below meth c H locs (C) (T) (lw_Z below #[Value.ref b] s) (F0 m 1055 ls []) := by
  obtain ⟨hx, hb, hr, hml, hown0, hts0, hX, hbl, hlocks, hgv⟩ := id C0
  have hbA : ¬ (fun q : Nat => s.heap.size ≤ q) b := Nat.not_le.mpr hbl
  have hown : s.vm.findClass RL = some m.cls := hown0
  have hts : ∀ w ∈ wsL_law, w.before #[Value.ref b] s = true := fun w h => hts0 w (wsL_law_in w h)
  obtain ⟨nT, nC, nD, nM, nZ, fo, hC, hN, hnC, hnM, hM, ho, hW⟩ := hI
  have h60 := hN.2.2.2.2.2.1
  have h512 := hN.2.2.2.2.2.2.1
  have hd := hN.2.2.2.2.2.2.2.1
  have hz1 := hN.2.2.2.2.2.2.2.2.2.1
  have hz30 := hN.2.2.2.2.2.2.2.2.2.2.1
  have hby : ∀ k, k < nC → vp_in (S 4 k) 60 := fun k hk => by obtain ⟨t, ht, h4⟩ := hN.by hk; rw [h4]; exact vp_in_nI (by omega) (by decide)
  have hro : ∀ k, k < nC → vp_in (S 5 k) 12 := fun k hk => by obtain ⟨t, ht, h4⟩ := hN.ro hk; rw [h4]; exact vp_in_nI (by omega) (by decide)
  have hsl : ∀ k, k < 6 → S 8 k ≠ -1 → vp_in (S 8 k) 60 := fun k hk h => by
    rcases hN.sl hk with h8 | ⟨t, ht, h8⟩
    · exact absurd h8 h
    · rw [h8]; exact vp_in_nI (by omega) (by decide)
  refine lv_aload_n hx hb dL_law_1055 rfl (lv_at hl 2 rfl) ?_
  refine kk_i (va_runV (As := []) (rest := []) ⟨hx, hb, hml, hown, hts⟩ (k_X5_dropped l D _ ad w S nT nC nD nM nZ hC hN) (cwV 0 hts gL_law_X5_dropped rfl rfl rfl (by decide +kernel) ⟨Nat.le_of_ble_eq_true rfl, Nat.le_of_ble_eq_true rfl⟩) (kV hE hW hC.u rfl _) rfl rfl hl.1 rfl (lv_room (Nat.le_of_ble_eq_true rfl)) dL_law_1056 ⟨show C + 0 ≤ 601024 by omega, show T + 0 ≤ 7293033 by omega⟩) hW (fun r4 ad1 w2 H5 locs hp3 hW => ?_)
  obtain ⟨e1, e2, e3⟩ := hp3
  rw [e2, e3] at hW
  subst e1
  refine lv_aload_n hx hb dL_law_1059 rfl (lv_at hl 3 rfl) ?_
  refine kk_i (va_runV (As := []) (rest := [.int (S 14 0)]) ⟨hx, hb, hml, hown, hts⟩ (c_dropped l D _ ad w S hM) (cwV 0 hts gL_law_X6_dropped rfl rfl rfl (by decide +kernel) ⟨Nat.le_of_ble_eq_true rfl, Nat.le_of_ble_eq_true rfl⟩) (kV hE hW hM.o rfl _) rfl rfl hl.1 rfl (lv_room (Nat.le_of_ble_eq_true rfl)) dL_law_1060 ⟨show C + 0 ≤ 601024 by omega, show T + 0 ≤ 7293033 by omega⟩) hW (fun r9 ad6 w7 H10 locs hp8 hW => ?_)
  obtain ⟨e4, e5, hM2⟩ := hp8
  rw [e5] at hW
  subst e4
  refine lv_icmp_eq (tgt := 1068) hx hb dL_law_1063 (by decide) (fun _ => ?_) (fun c9 => absurd (rfl) c9)
  refine W.widen (k := C + 10) (n := T + 2100) (by omega) (by omega) ?_
  exact K _ _ _ _ _ ⟨nT, nC, nD, nM, nZ, fo, hC.s17.fr hN.s17 (fun k hk => hM2.fr k (by omega)) (fun _ _ => rfl), hN.s17, by omega, by omega, hM2.re, (hM2.fr 2100 (by omega)).trans ho, hW⟩ ls (lv_sub hl [0, 1, 2, 3, 4] rfl)

