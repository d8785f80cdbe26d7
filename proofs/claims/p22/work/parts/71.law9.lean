/-! the law: from its entry -/
set_option maxHeartbeats 4000000 in
set_option maxRecDepth 100000 in
/-- YOUR PART: from the entry, for every script of at most 260 ints, the law comes to its end with true ('hflags': the launch's flags, for a law that throws: no stack traces) -/
theorem whole_start {p : Program} {e : Env} {s : State} {m : MethodId} {below : List Frame} {meth : Method} {c : Code} (l : Launch) (hflags : l.flags = flags0) {b L : Nat} {xs : Nat → Int32} (hL : L ≤ 260) (C0 : lw_At p s m meth c b L xs) : W p l e room_1 s m #[Value.ref b] below meth c s.heap [] 0 0 (lw_Z below #[Value.ref b] s) (entryFrame m ([Value.ref b] : List Value).toArray 1) := by
  obtain ⟨hx, hb, hr, hml, hown0, hts0, hX, hbl, hlocks, hgv⟩ := id C0
  have hnt : l.stackTraces = false := by
    unfold Launch.stackTraces
    rw [hflags]
    decide +kernel
  obtain ⟨D, hE⟩ := law_kE C0
  have hown : s.vm.findClass RL = some m.cls := hown0
  have hts : ∀ w ∈ wsLw, w.before #[Value.ref b] s = true := fun w h => hts0 w (tb_wsLw w h)
  have hbA : ¬ (fun q : Nat => s.heap.size ≤ q) b := Nat.not_le.mpr hbl
  obtain ⟨ad, hade⟩ : ∃ ad : Nat → Nat, ad = fun _ => 0 := ⟨_, rfl⟩
  obtain ⟨w, hwe⟩ : ∃ w : kWd, w = fun _ => none := ⟨_, rfl⟩
  have hW : kS D (fun q : Nat => s.heap.size ≤ q) s.heap ad w s.heap [] := ⟨fun k e h => (by rw [hwe] at h; cases h), ⟨fun i j x y h => (by rw [hwe] at h; cases h), fun k e h => (by rw [hwe] at h; cases h)⟩, va_S.rf, fun q h => h⟩
  have hl := lv_entry ([.ref b]) (n := 1) (Nat.le_of_ble_eq_true rfl)
  rw [lg_entry_eq]
  generalize (lg_sl ([.ref b]) ++ List.replicate (1 - (lg_sl ([.ref b])).length) Slot.unset).toArray = ls at hl ⊢
  have hl : lv_has ls 1 [(0, .ref b)] := hl
  refine lv_aload_n hx hb dL_law_0 rfl (lv_at hl 0 rfl) ?_
  refine lv_iconst (v := 0) hx hb dL_law_1 (by decide) ?_
  refine W.eq (g2 := F0 m 2 ls [.int (nI 0), .ref b]) rfl ?_
  refine kk_i (va_runS (As := [.ref b, .int (nI 0)]) (rest := []) ⟨hx, hb, hml, hown, hts⟩ (k_L_cellar l hnt D _ ad w b L xs hL 0 (by omega)) (va_cwS 2 hts gLw_cellar rfl rfl rfl (by decide +kernel) ⟨Nat.le_of_ble_eq_true rfl, Nat.le_of_ble_eq_true rfl⟩) (kStx hE hW hX hbl hbA _) rfl rfl hl.1 rfl (lv_room (Nat.le_of_ble_eq_true rfl)) dL_law_2 ⟨Nat.le_of_ble_eq_true rfl, Nat.le_of_ble_eq_true rfl⟩) hW (fun r1 ad1 w1 H1 locs hp1 hW => ?_)
  obtain rfl : r1 = 1 := hp1
  refine lv_if_eq (tgt := 32) hx hb dL_law_5 (by decide) (fun c9 => absurd c9 (by decide)) (fun _ => ?_)
  refine lv_aload_n hx hb dL_law_8 rfl (lv_at hl 0 rfl) ?_
  refine lv_sipush (v := 200) hx hb dL_law_9 (by decide) ?_
  refine W.eq (g2 := F0 m 12 ls [.int (nI 200), .ref b]) rfl ?_
  refine kk_i (va_runS (As := [.ref b, .int (nI 200)]) (rest := []) ⟨hx, hb, hml, hown, hts⟩ (k_L_cellar l hnt D _ ad1 w1 b L xs hL 200 (by omega)) (va_cwS 2 hts gLw_cellar rfl rfl rfl (by decide +kernel) ⟨Nat.le_of_ble_eq_true rfl, Nat.le_of_ble_eq_true rfl⟩) (kStx hE hW hX hbl hbA _) rfl rfl hl.1 rfl (lv_room (Nat.le_of_ble_eq_true rfl)) dL_law_12 ⟨Nat.le_of_ble_eq_true rfl, Nat.le_of_ble_eq_true rfl⟩) hW (fun r2 ad2 w2 H2 locs hp2 hW => ?_)
  obtain rfl : r2 = 1 := hp2
  refine lv_if_eq (tgt := 32) hx hb dL_law_15 (by decide) (fun c9 => absurd c9 (by decide)) (fun _ => ?_)
  refine lv_aload_n hx hb dL_law_18 rfl (lv_at hl 0 rfl) ?_
  refine lv_sipush (v := 400) hx hb dL_law_19 (by decide) ?_
  refine W.eq (g2 := F0 m 22 ls [.int (nI 400), .ref b]) rfl ?_
  refine kk_i (va_runS (As := [.ref b, .int (nI 400)]) (rest := []) ⟨hx, hb, hml, hown, hts⟩ (k_L_cellar l hnt D _ ad2 w2 b L xs hL 400 (by omega)) (va_cwS 2 hts gLw_cellar rfl rfl rfl (by decide +kernel) ⟨Nat.le_of_ble_eq_true rfl, Nat.le_of_ble_eq_true rfl⟩) (kStx hE hW hX hbl hbA _) rfl rfl hl.1 rfl (lv_room (Nat.le_of_ble_eq_true rfl)) dL_law_22 ⟨Nat.le_of_ble_eq_true rfl, Nat.le_of_ble_eq_true rfl⟩) hW (fun r3 ad3 w3 H3 locs hp3 hW => ?_)
  obtain rfl : r3 = 1 := hp3
  refine lv_if_eq (tgt := 32) hx hb dL_law_25 (by decide) (fun c9 => absurd c9 (by decide)) (fun _ => ?_)
  refine lv_iconst (v := 1) hx hb dL_law_28 (by decide) ?_
  refine lv_goto (tgt := 33) hx hb dL_law_29 (by decide) ?_
  refine va_forget (fun q hq => hW.2.2.1.2.2 q hq) ?_
  refine W.widen (k := 667549) (n := 7098822) (Nat.le_of_ble_eq_true rfl) (Nat.le_of_ble_eq_true rfl) ?_
  exact lw_ret hx hb hr hlocks dL_law_33
