/-! the law: its loop, and from its entry -/
theorem law_end {L q : Nat} (hL : L ≤ 2048) (hq : 4 * q ≤ L) (h : ¬ 4 * q + 4 ≤ L) : nI L - 4 < nI (4 * q) := by
  by_cases c : 4 ≤ L
  · rw [show (4 : Int32) = nI 4 from rfl, pk_sub c]
    exact nI_lt (by omega) (by omega)
  · obtain rfl : q = 0 := by omega
    rcases (show L = 0 ∨ L = 1 ∨ L = 2 ∨ L = 3 by omega) with rfl | rfl | rfl | rfl <;> decide
theorem law_on {L q : Nat} (hL : L ≤ 2048) (h : 4 * q + 4 ≤ L) : ¬ nI L - 4 < nI (4 * q) := by
  rw [show (4 : Int32) = nI 4 from rfl, pk_sub (show 4 ≤ L by omega)]
  exact nI_nlt (by omega) (by omega)
theorem LI.mono {D : va_G} {A : Nat → Prop} {s : State} {q : Nat} {S : St} {ad : Nat → Nat} {w : kWd} {H : Heap} {locs : List Loc} (h : LI D A s q S ad w H locs) : LI D A s (q + 1) S ad w H locs := by
  obtain ⟨nT, nC, nD, nM, nZ, fo, h1, h2, h3, h4, h5⟩ := h
  exact ⟨nT, nC, nD, nM, nZ, fo, h1, h2, by omega, by omega, h5⟩
set_option maxHeartbeats 4000000 in
set_option maxRecDepth 100000 in
theorem law_loop {p : Program} {l : Launch} {e : Env} {s : State} {m : MethodId} {below : List Frame} {meth : Method} {c : Code} {b L : Nat} {xs : Nat → Int32} (hnt : l.stackTraces = false) (C0 : lw_At p s m meth c b L xs) {D : va_G} (hE : kE D (fun q : Nat => s.heap.size ≤ q) s) (hL : L ≤ 2048) : ∀ (d q : Nat), q + d = 513 → 4 * q ≤ L → ∀ (S : St) (ad : Nat → Nat) (w : kWd) (H : Heap) (locs : List Loc), LI D (fun q : Nat => s.heap.size ≤ q) s q S ad w H locs → ∀ ls : Array Slot, lv_has ls 7 [(4, .int (nI (4 * q))), (0, .ref b), (1, .ref (ad 0)), (2, .ref (ad 2000)), (3, .ref (ad 2100))] → W p l e room_1 s m #[Value.ref b] below meth c H locs (41 + 10 * q) (8400 + 2100 * q) (lw_Z below #[Value.ref b] s) (F0 m 23 ls []) := by
  obtain ⟨hx, hb, hr, hml, hown0, hts0, hX, hbl, hlocks, hgv⟩ := id C0
  have hbA : ¬ (fun q : Nat => s.heap.size ≤ q) b := Nat.not_le.mpr hbl
  intro d
  induction d with
  | zero =>
    intro q h1 h2
    omega
  | succ d ih =>
    intro q h1 hq0 S ad w H locs hI ls hl
    have hW := hI.choose_spec.choose_spec.choose_spec.choose_spec.choose_spec.choose_spec.2.2.2.2.2.2
    refine lv_iload hx hb dL_law_23 (lv_at hl 0 rfl) ?_
    refine lv_aload_n hx hb dL_law_25 rfl (lv_at hl 1 rfl) ?_
    refine va_slen hx hb hX hbl hbA hW.2.2.1 dL_law_26 ?_
    refine lv_iconst (v := 4) hx hb dL_law_27 (by decide) ?_
    refine lv_isub hx hb dL_law_28 ?_
    by_cases h4 : 4 * q + 4 ≤ L
    · refine lv_icmp_gt (tgt := 1074) hx hb dL_law_29 (by decide) (fun c9 => absurd c9 (law_on hL h4)) (fun _ => ?_)
      refine lv_aload_n hx hb dL_law_32 rfl (lv_at hl 1 rfl) ?_
      refine lv_iload hx hb dL_law_33 (lv_at hl 0 rfl) ?_
      refine va_sld hx hb hX hbl hbA hW.2.2.1 (vp_in_nI (show 4 * q < L by omega) (by omega)) dL_law_35 ?_
      rw [nI_clamp (show 4 * q < 2 ^ 31 by omega)]
      refine lv_bipush (v := 31) hx hb dL_law_36 (by decide) ?_
      refine lv_iand hx hb dL_law_38 ?_
      obtain ⟨j, hj, ej⟩ := pk_andE (xs (4 * q)) (m := 31) 5 (by decide)
      rw [ej]
      have K : LK p l e s m below meth c b D (fun q : Nat => s.heap.size ≤ q) q (41 + 10 * q) (8400 + 2100 * q) 1068 := by
        intro S' ad' w' H' locs' hI' ls hl
        refine lv_iinc (v := nI (4 * (q + 1))) (lv' := [(4, .int (nI (4 * (q + 1)))), (0, .ref b), (1, .ref (ad' 0)), (2, .ref (ad' 2000)), (3, .ref (ad' 2100))]) hx hb dL_law_1068 hl (k := 0) rfl (show nI (4 * q) + nI 4 = nI (4 * (q + 1)) from nI_add (4 * q) 4) (by decide) rfl (fun ls hl => ?_)
        refine lv_goto (tgt := 23) hx hb dL_law_1071 (by decide) ?_
        exact W_cs (c2 := 41 + 10 * (q + 1)) (s2 := 8400 + 2100 * (q + 1)) (by omega) (by omega) (ih (q + 1) (by omega) (by omega) S' ad' w' H' locs' hI' ls hl)
      rcases (show j = 0 ∨ j = 1 ∨ j = 2 ∨ j = 3 ∨ j = 4 ∨ j = 5 ∨ j = 6 ∨ j = 7 ∨ j = 8 ∨ j = 9 ∨ j = 10 ∨ j = 11 ∨ j = 12 ∨ j = 13 ∨ j = 14 ∨ j = 15 ∨ j = 16 ∨ j = 17 ∨ j = 18 ∨ 19 ≤ j by omega) with rfl | rfl | rfl | rfl | rfl | rfl | rfl | rfl | rfl | rfl | rfl | rfl | rfl | rfl | rfl | rfl | rfl | rfl | rfl | h19
      · refine lv_tableIn (off := 89) (tgt := 128) hx hb dL_law_39 (by decide) (by decide) (by decide) (by decide) ?_
        exact law_setSpace hnt C0 hE h4 hL (by omega) (by omega) hI K hl
      · refine lv_tableIn (off := 145) (tgt := 184) hx hb dL_law_39 (by decide) (by decide) (by decide) (by decide) ?_
        exact law_begin hnt C0 hE h4 hL (by omega) (by omega) hI K hl
      · refine lv_tableIn (off := 189) (tgt := 228) hx hb dL_law_39 (by decide) (by decide) (by decide) (by decide) ?_
        exact law_write hnt C0 hE h4 hL (by omega) (by omega) hI K hl
      · refine lv_tableIn (off := 269) (tgt := 308) hx hb dL_law_39 (by decide) (by decide) (by decide) (by decide) ?_
        exact law_read hnt C0 hE h4 hL (by omega) (by omega) hI K hl
      · refine lv_tableIn (off := 337) (tgt := 376) hx hb dL_law_39 (by decide) (by decide) (by decide) (by decide) ?_
        exact law_readAt hnt C0 hE h4 hL (by omega) (by omega) hI K hl
      · refine lv_tableIn (off := 405) (tgt := 444) hx hb dL_law_39 (by decide) (by decide) (by decide) (by decide) ?_
        exact law_save hnt C0 hE h4 hL (by omega) (by omega) hI K hl
      · refine lv_tableIn (off := 461) (tgt := 500) hx hb dL_law_39 (by decide) (by decide) (by decide) (by decide) ?_
        exact law_undoTo hnt C0 hE h4 hL (by omega) (by omega) hI K hl
      · refine lv_tableIn (off := 529) (tgt := 568) hx hb dL_law_39 (by decide) (by decide) (by decide) (by decide) ?_
        exact law_undo hnt C0 hE h4 hL (by omega) (by omega) hI K hl
      · refine lv_tableIn (off := 585) (tgt := 624) hx hb dL_law_39 (by decide) (by decide) (by decide) (by decide) ?_
        exact law_commit hnt C0 hE h4 hL (by omega) (by omega) hI K hl
      · refine lv_tableIn (off := 641) (tgt := 680) hx hb dL_law_39 (by decide) (by decide) (by decide) (by decide) ?_
        exact law_moment hnt C0 hE h4 hL (by omega) (by omega) hI K hl
      · refine lv_tableIn (off := 654) (tgt := 693) hx hb dL_law_39 (by decide) (by decide) (by decide) (by decide) ?_
        exact law_transactions hnt C0 hE h4 hL (by omega) (by omega) hI K hl
      · refine lv_tableIn (off := 667) (tgt := 706) hx hb dL_law_39 (by decide) (by decide) (by decide) (by decide) ?_
        exact law_now hnt C0 hE h4 hL (by omega) (by omega) hI K hl
      · refine lv_tableIn (off := 723) (tgt := 762) hx hb dL_law_39 (by decide) (by decide) (by decide) (by decide) ?_
        exact law_versionAt hnt C0 hE h4 hL (by omega) (by omega) hI K hl
      · refine lv_tableIn (off := 791) (tgt := 830) hx hb dL_law_39 (by decide) (by decide) (by decide) (by decide) ?_
        exact law_lockOf hnt C0 hE h4 hL (by omega) (by omega) hI K hl
      · refine lv_tableIn (off := 847) (tgt := 886) hx hb dL_law_39 (by decide) (by decide) (by decide) (by decide) ?_
        exact law_slotOf hnt C0 hE h4 hL (by omega) (by omega) hI K hl
      · refine lv_tableIn (off := 915) (tgt := 954) hx hb dL_law_39 (by decide) (by decide) (by decide) (by decide) ?_
        exact law_isMarked hnt C0 hE h4 hL (by omega) (by omega) hI K hl
      · refine lv_tableIn (off := 990) (tgt := 1029) hx hb dL_law_39 (by decide) (by decide) (by decide) (by decide) ?_
        exact law_marked hnt C0 hE h4 hL (by omega) (by omega) hI K hl
      · refine lv_tableIn (off := 1003) (tgt := 1042) hx hb dL_law_39 (by decide) (by decide) (by decide) (by decide) ?_
        exact law_records hnt C0 hE h4 hL (by omega) (by omega) hI K hl
      · refine lv_tableIn (off := 1016) (tgt := 1055) hx hb dL_law_39 (by decide) (by decide) (by decide) (by decide) ?_
        exact law_dropped hnt C0 hE h4 hL (by omega) (by omega) hI K hl
      · refine lv_tableOut (tgt := 1068) hx hb dL_law_39 (Or.inr (by rw [nI_toInt (by omega)]; omega)) (by decide) ?_
        refine W.widen (k := 41 + 10 * q + 10) (n := 8400 + 2100 * q + 2100) (by omega) (by omega) ?_
        exact K S ad w H locs hI.mono ls hl
    · refine lv_icmp_gt (tgt := 1074) hx hb dL_law_29 (by decide) (fun _ => ?_) (fun c9 => absurd (law_end hL hq0 h4) c9)
      refine lv_iconst (v := 1) hx hb dL_law_1074 (by decide) ?_
      refine va_forget (fun q hq => hW.2.2.1.2.2 q hq) ?_
      refine W.widen (k := 601024) (n := 7293033) (by omega) (by omega) ?_
      exact lw_ret hx hb hr hlocks dL_law_1075

theorem SN0 : SN St0 0 0 0 0 12 := by
  refine ⟨rfl, rfl, rfl, rfl, rfl, by decide, by decide, by decide, by decide, by decide, by decide, by decide, fun k hk => absurd hk (Nat.not_lt_zero k), fun k _ => rfl, fun i hi => ⟨Or.inl (if_pos hi), Or.inl rfl⟩, fun t _ => Or.inl rfl, fun t _ => rfl, fun t ht => absurd ht (Nat.not_lt_zero t), fun t ht => absurd ht (Nat.not_lt_zero t)⟩
set_option maxHeartbeats 4000000 in
set_option maxRecDepth 100000 in
/-- YOUR PART: from the entry, for every script of at most 2048 ints, the law comes to its end with true ('hflags': the launch's flags, for a law that throws: no stack traces) -/
theorem whole_start {p : Program} {e : Env} {s : State} {m : MethodId} {below : List Frame} {meth : Method} {c : Code} (l : Launch) (hflags : l.flags = flags0) {b L : Nat} {xs : Nat → Int32} (hL : L ≤ 2048) (C0 : lw_At p s m meth c b L xs) : W p l e room_1 s m #[Value.ref b] below meth c s.heap [] 0 0 (lw_Z below #[Value.ref b] s) (entryFrame m ([Value.ref b] : List Value).toArray 7) := by
  obtain ⟨hx, hb, hr, hml, hown0, hts0, hX, hbl, hlocks, hgv⟩ := id C0
  have hnt : l.stackTraces = false := by
    unfold Launch.stackTraces
    rw [hflags]
    decide +kernel
  obtain ⟨D, hE⟩ := law_kE C0
  have hown : s.vm.findClass RL = some m.cls := hown0
  have hts : ∀ w ∈ wsL_law, w.before #[Value.ref b] s = true := fun w h => hts0 w (wsL_law_in w h)
  obtain ⟨A, hAe⟩ : ∃ A : Nat → Prop, A = (fun q : Nat => s.heap.size ≤ q) := ⟨_, rfl⟩
  obtain ⟨ad, hade⟩ : ∃ ad : Nat → Nat, ad = fun _ => 0 := ⟨_, rfl⟩
  obtain ⟨w, hwe⟩ : ∃ w : kWd, w = fun _ => none := ⟨_, rfl⟩
  have hW : kS D (fun q : Nat => s.heap.size ≤ q) s.heap ad w s.heap [] := ⟨fun k e h => (by rw [hwe] at h; cases h), ⟨fun i j x y h => (by rw [hwe] at h; cases h), fun k e h => (by rw [hwe] at h; cases h)⟩, va_S.rf, fun q h => h⟩
  have hl := lv_entry ([.ref b]) (n := 7) (Nat.le_of_ble_eq_true rfl)
  rw [lg_entry_eq]
  generalize (lg_sl ([.ref b]) ++ List.replicate (7 - (lg_sl ([.ref b])).length) Slot.unset).toArray = ls at hl ⊢
  have hl : lv_has ls 7 [(0, .ref b)] := hl
  have hiRX5 : ∀ w ∈ wsX50, w ∈ wsL_law := inlX5
  have hiRX6 : ∀ w ∈ wsX60, w ∈ wsL_law := inlX6
  refine kk_new (ci := 6) hx hb hts hown hE hW 0 rfl hiRX5 tyX5 tyX5_ok (hts (.classLink RL 8 RX5) (by decide +kernel)) (hts (.instantiable RX5 8) (by decide +kernel)) (hts (.initialized RX5) (by decide +kernel)) (fs := [.null, .null, .null, .null, .int 0, .int 0, .int 0, .int 0]) (by intro j hj; match j, hj with | 0, _ => rfl | 1, _ => rfl | 2, _ => rfl | 3, _ => rfl | 4, _ => rfl | 5, _ => rfl | 6, _ => rfl | 7, _ => rfl) (Nat.le_of_ble_eq_true rfl) (Nat.le_of_ble_eq_true rfl) dL_law_0 (fun H5 ad1 w2 ea3 e4 hW => ?_)
  have g6 := up_s e4
  refine lv_dup hx hb dL_law_3 rfl ?_
  refine kk_v (va_runI (As := []) (rest := [.ref (ad1 0)]) ⟨hx, hb, hml, hown, hts⟩ (k_X5_init l D _ ad1 w2 g6) (cwI 0 hts gL_law_X5_init rfl rfl rfl (hts (.initialized RX5) (by decide +kernel)) (hts (.methodLink RL 64 yX5_init) (by decide +kernel)) (hts (.instanceMethod yX5_init) (by decide +kernel)) rfl (by decide +kernel) ⟨Nat.le_of_ble_eq_true rfl, Nat.le_of_ble_eq_true rfl⟩) (kSt hE hW _) rfl rfl hl.1 rfl (lv_room (Nat.le_of_ble_eq_true rfl)) dL_law_4 ⟨Nat.le_of_ble_eq_true rfl, Nat.le_of_ble_eq_true rfl⟩) hW (fun ad7 w8 H11 locs hp9 hW => ?_)
  obtain ⟨hC, hF, h0⟩ := hp9
  have a12 : ad7 0 = ad1 0 := h0
  refine W.eq (g2 := F0 m 7 ls [.ref (ad7 0)]) (by rw [a12]) ?_
  refine lv_astore_n (lv' := [(1, .ref (ad7 0)), (0, .ref b)]) hx hb dL_law_7 rfl hl (by decide) rfl (fun ls hl => ?_)
  refine kk_new (ci := 7) hx hb hts hown hE hW 2000 rfl hiRX6 tyX6 tyX6_ok (hts (.classLink RL 65 RX6) (by decide +kernel)) (hts (.instantiable RX6 18) (by decide +kernel)) (hts (.initialized RX6) (by decide +kernel)) (fs := [.null, .int 0, .int 0, .int 0, .null, .null, .null, .int 0, .null, .null, .null, .null, .int 0, .null, .null, .int 0, .int 0, .int 0]) (by intro j hj; match j, hj with | 0, _ => rfl | 1, _ => rfl | 2, _ => rfl | 3, _ => rfl | 4, _ => rfl | 5, _ => rfl | 6, _ => rfl | 7, _ => rfl | 8, _ => rfl | 9, _ => rfl | 10, _ => rfl | 11, _ => rfl | 12, _ => rfl | 13, _ => rfl | 14, _ => rfl | 15, _ => rfl | 16, _ => rfl | 17, _ => rfl | k9 + 18, h9 => omega) (Nat.le_of_ble_eq_true rfl) (Nat.le_of_ble_eq_true rfl) dL_law_8 (fun H17 ad13 w14 ea15 e16 hW => ?_)
  have a18 : ad13 0 = ad7 0 := up_n ea15 (by decide)
  rw [← a18] at hl
  have g19 := up_s e16
  refine lv_dup hx hb dL_law_11 rfl ?_
  refine kk_v (va_runI (As := []) (rest := [.ref (ad13 2000)]) ⟨hx, hb, hml, hown, hts⟩ (k_X6_init l D _ ad13 w14 g19) (cwI 0 hts gL_law_X6_init rfl rfl rfl (hts (.initialized RX6) (by decide +kernel)) (hts (.methodLink RL 67 yX6_init) (by decide +kernel)) (hts (.instanceMethod yX6_init) (by decide +kernel)) rfl (by decide +kernel) ⟨Nat.le_of_ble_eq_true rfl, Nat.le_of_ble_eq_true rfl⟩) (kSt hE hW _) rfl rfl hl.1 rfl (lv_room (Nat.le_of_ble_eq_true rfl)) dL_law_12 ⟨Nat.le_of_ble_eq_true rfl, Nat.le_of_ble_eq_true rfl⟩) hW (fun ad20 w21 H24 locs hp22 hW => ?_)
  obtain ⟨hM, hFa, h20⟩ := hp22
  have a25 : ad20 0 = ad13 0 := (hFa 0 (by omega))
  have a26 : ad20 2000 = ad13 2000 := h20
  rw [← a25] at hl
  refine W.eq (g2 := F0 m 15 ls [.ref (ad20 2000)]) (by rw [a26]) ?_
  refine lv_astore_n (lv' := [(2, .ref (ad20 2000)), (1, .ref (ad20 0)), (0, .ref b)]) hx hb dL_law_15 rfl hl (by decide) rfl (fun ls hl => ?_)
  refine lv_iconst (v := 1) hx hb dL_law_16 (by decide) ?_
  refine kk_newa (atype := .long) (ty := .long) hx hb (hts (.arrayClass .long) (by decide +kernel)) rfl hE hW 2100 2 rfl (fun h => va_nm_long h) (N' := 1) (a0 := (1, .inr (.inl (fun _ => 0)))) (fun _ => rfl) (by decide) (by decide) (by decide) (Nat.le_of_ble_eq_true rfl) (Nat.le_of_ble_eq_true rfl) dL_law_17 (fun H31 ad27 w28 ea29 e30 hW => ?_)
  have a32 : ad27 2000 = ad20 2000 := up_n ea29 (by decide)
  have a33 : ad27 0 = ad20 0 := up_n ea29 (by decide)
  rw [← a32, ← a33] at hl
  refine lv_astore_n (lv' := [(3, .ref (ad27 2100)), (2, .ref (ad27 2000)), (1, .ref (ad27 0)), (0, .ref b)]) hx hb dL_law_19 rfl hl (by decide) rfl (fun ls hl => ?_)
  refine lv_iconst (v := 0) hx hb dL_law_20 (by decide) ?_
  refine lv_istore (lv' := [(4, .int 0), (3, .ref (ad27 2100)), (2, .ref (ad27 2000)), (1, .ref (ad27 0)), (0, .ref b)]) hx hb dL_law_21 hl (by decide) rfl (fun ls hl => ?_)
  have hC9 : CW D St0 ad27 w28 0 0 := hC.fr SN0 (fun k hk => (up_n e30 (by omega)).trans ((hM.fr k (by omega)).trans (up_n e16 (by omega)))) (fun k hk => (up_n ea29 (by omega)).trans ((hFa k (by omega)).trans (up_n ea15 (by omega))))
  have hM9 : MW D St0 ad27 w28 w28 := hM.mv (fun k a b => up_n e30 (by omega)) (fun k a b => up_n ea29 (by omega))
  refine W.widen (k := 41 + 10 * 0) (n := 8400 + 2100 * 0) (Nat.le_of_ble_eq_true rfl) (Nat.le_of_ble_eq_true rfl) ?_
  exact law_loop hnt C0 hE hL 513 0 rfl (by omega) St0 ad27 w28 _ _ ⟨0, 0, 0, 0, 12, _, hC9, SN0, Nat.le_refl _, Nat.le_refl _, hM9, up_s e30, hW⟩ ls (lv_sub hl [0, 4, 3, 2, 1] rfl)

