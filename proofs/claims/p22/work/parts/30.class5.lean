/-! the class's constructor -/
def St0 : St := fun c k => if c = 8 then (if k < 6 then -1 else 0) else if c = 10 then 12 else 0
def BK (D : va_G) (ad : Nat → Nat) (w : kWd) (b : Nat) : Prop := w (10 + b) = some (.inr (1, [.ref (ad (13 + b))])) ∧ (∃ f, w (13 + b) = some (qR (D.1 105) 2 f) ∧ f 0 = some (ad (16 + 2 * b)) ∧ f 1 = some (ad (16 + 2 * b + 1))) ∧ w (16 + 2 * b) = some (.inr (4, [.null, .int 0])) ∧ w (16 + 2 * b + 1) = some (.inr (4, [.null, .int 0]))
theorem BK.keep {D : va_G} {ad ad1 : Nat → Nat} {w w1 : kWd} {b : Nat} (h : BK D ad w b) (hw : ∀ k, (k = 10 + b ∨ k = 13 + b ∨ k = 16 + 2 * b ∨ k = 16 + 2 * b + 1) → w1 k = w k ∧ ad1 k = ad k) : BK D ad1 w1 b := by
  obtain ⟨h1, ⟨f, h2, h3, h4⟩, h5, h6⟩ := h
  refine ⟨?_, ⟨f, (hw _ (Or.inr (Or.inl rfl))).1.trans h2, ?_, ?_⟩, (hw _ (Or.inr (Or.inr (Or.inl rfl)))).1.trans h5, (hw _ (Or.inr (Or.inr (Or.inr rfl)))).1.trans h6⟩
  · rw [(hw (10 + b) (Or.inl rfl)).1, h1, (hw (13 + b) (Or.inr (Or.inl rfl))).2]
  · rw [h3, (hw _ (Or.inr (Or.inr (Or.inl rfl)))).2]
  · rw [h4, (hw _ (Or.inr (Or.inr (Or.inr rfl)))).2]
abbrev uC1 (ad : Nat → Nat) : Option va_E := some (.inr (6, [.ref (ad 1), .ref (ad 2), .ref (ad 3), .ref (ad 4), .int 12, .int 0, .int 0, .int 0]))
abbrev lC0 (D : va_G) : Option va_E := some (.inr (0, [.int 0, .ref (D.2 999 0), .int 0]))
/-- i blocks and r rows are made -/
def IB (D : va_G) (ad0 : Nat → Nat) (w0 : kWd) (i r : Nat) (ad : Nat → Nat) (w : kWd) (fB fR : Nat → Option Nat) : Prop := w 0 = uC1 ad ∧ w 1 = some (qR (D.1 103) 3 fB) ∧ w 2 = some (qR (D.1 104) 12 fR) ∧ w 3 = lC0 D ∧ w 4 = lC0 D ∧ (∀ b, b < i → fB b = some (ad (10 + b)) ∧ BK D ad w b) ∧ (∀ q, q < r → fR q = some (ad (24 + q)) ∧ w (24 + q) = some (.inr (3, [.ref (ad (10 + q / 4)), .int 0]))) ∧ FrC ad0 w0 ad w ∧ ad 0 = ad0 0
theorem IB.cw {D : va_G} {ad0 ad : Nat → Nat} {w0 w : kWd} {fB fR : Nat → Option Nat} (h : IB D ad0 w0 3 12 ad w fB fR) : CW D St0 ad w 0 0 := by
  obtain ⟨h0, h1, h2, h3, h4, hb, hr, -, -⟩ := h
  refine ⟨h0, ⟨fB, h1, fun i hi => (hb i hi).1⟩, ⟨fR, h2, fun i hi => (hr i hi).1⟩, ⟨0, 0, fun _ => none, D.2 999 0, h3, Nat.le_refl _, by omega, Or.inl ⟨rfl, rfl⟩, fun i hi => absurd hi (Nat.not_lt_zero i)⟩, ⟨0, 0, fun _ => none, D.2 999 0, h4, Nat.le_refl _, by omega, Or.inl ⟨rfl, rfl⟩, fun i hi => absurd hi (Nat.not_lt_zero i)⟩, fun b hb3 => ?_, fun i hi => ?_, fun r hr9 => (hr r hr9).2, fun t ht => absurd ht (Nat.not_lt_zero t), fun k hk => absurd hk (Nat.not_lt_zero k)⟩
  · obtain ⟨-, g1, ⟨f, g2, g3, g4⟩, -, -⟩ := hb b hb3
    refine ⟨g1, f, g2, fun j hj => ?_⟩
    rcases (show j = 0 ∨ j = 1 by omega) with rfl | rfl
    · exact g3
    · exact g4
  · show w (16 + i) = (some (.inr (4, [va_rf (hold ad St0 i), .int 0])) : Option va_E)
    rw [hold_n (S := St0) (i := i) (show (if i < 6 then (-1 : Int32) else 0) = -1 from if_pos hi)]
    obtain ⟨-, -, -, g5, g6⟩ := hb (i / 2) (by omega)
    rcases (show i = 2 * (i / 2) ∨ i = 2 * (i / 2) + 1 by omega) with e | e
    · rw [e]; exact g5
    · rw [e]; exact g6
set_option maxHeartbeats 4000000 in
set_option maxRecDepth 100000 in
/-- k_X5_init -/
theorem k_X5_init (l : Launch) (D : va_G) (A : Nat → Prop) (ad : Nat → Nat) (w : kWd) (g0 : w 0 = some (.inr (6, [.null, .null, .null, .null, .int 0, .int 0, .int 0, .int 0]))) : Met l yX5_init wsX5_init ({ frames := 5, cells := 28, slots := 66, locals := 210 }) (kPc D A [.ref (ad 0)] ad w) (kQv D A (fun ad' w' => CW D St0 ad' w' 0 0 ∧ FrC ad w ad' w' ∧ ad' 0 = ad 0)) 28 66 A := by
  refine Met.ofW (cc := cX5_init) (maxL := 2) (ret := none) (by decide) rfl ?_
  intro p e s m args below meth c s₁ B hml hv
  obtain ⟨rfl, hE, hW0, hI0, hA⟩ := hv
  have hx := B.exec
  have hb := B.bytes
  have hr := B.returns
  have hts := atoms_spec (ws := wsX5_init) B.pre
  have hown : s.vm.findClass RX5 = some m.cls := findClass_of_methodNamed B.named
  have hlocks := B.notSynchronized
  have hin : meth.name = "<init>" := (name_of_methodNamed B.named B.method).1
  have hiRJx4a65c : ∀ w ∈ wsJx4a65c0, w ∈ wsX5_init := by decide +kernel
  have hiRX0 : ∀ w ∈ wsX00, w ∈ wsX5_init := by decide +kernel
  have hiRX2 : ∀ w ∈ wsX20, w ∈ wsX5_init := by decide +kernel
  have hiRX5 : ∀ w ∈ wsX50, w ∈ wsX5_init := by decide +kernel
  have hW : kS D A s.heap ad w s.heap [] := ⟨hW0, hI0, va_S.rf, hA⟩
  have hl := lv_entry ([.ref (ad 0)]) (n := 2) (Nat.le_of_ble_eq_true rfl)
  rw [lg_entry_eq]
  generalize (lg_sl ([.ref (ad 0)]) ++ List.replicate (2 - (lg_sl ([.ref (ad 0)])).length) Slot.unset).toArray = ls at hl ⊢
  have hl : lv_has ls 2 [(0, .ref (ad 0))] := hl
  refine lv_aload_n hx hb dX5_init_0 rfl (lv_at hl 0 rfl) ?_
  refine W.objInit hx hb hown (hts (.methodLink RX5 1 objectInit) (by decide +kernel)) (hts (.instanceMethod objectInit) (by decide +kernel)) (hts (.code objectInit ⟨#[0xb1]⟩ 1 none) (by decide +kernel)) rfl (by rw [hml]; exact hl.1) rfl dX5_init_1 (Nat.le_of_ble_eq_true rfl) (Nat.le_of_ble_eq_true rfl) ?_
  refine W.eq (g2 := F0 m 4 ls []) rfl ?_
  refine lv_aload_n hx hb dX5_init_4 rfl (lv_at hl 0 rfl) ?_
  refine lv_iconst (v := 3) hx hb dX5_init_5 (by decide) ?_
  refine kk_newq hx hb hown (hts (.classLink RX5 9 "UndoCellar$Block") (by decide +kernel)) hE.AO.1 hE hW 1 3 rfl (by decide) (N' := 3) (by decide) (by decide) (Nat.le_of_ble_eq_true rfl) (Nat.le_of_ble_eq_true rfl) dX5_init_6 (fun H5 ad1 w2 ea3 e4 hW => ?_)
  have a6 : ad1 0 = ad 0 := up_n ea3 (by decide)
  rw [← a6] at hl
  have f7 := (up_n e4 (by decide)).trans g0
  refine W.eq (g2 := F0 m 9 ls [.ref (ad1 1), .ref (ad1 0)]) (by rw [a6]) ?_
  have g8 := up_s e4
  refine kk_putF hx hb hts hown hE hW f7 rfl hiRX5 tyX5 tyX5_ok nmX5 0 (by decide) (hts (.fieldLink RX5 11 "UndoCellar" "blocks" "[LUndoCellar$Block;") (by decide +kernel)) (fun _ h9 => h9) rfl hin rfl (ty := tyX5 0) (tyX5_ok 0 (by decide)) rfl rfl (Nat.le_of_ble_eq_true rfl) dX5_init_9 (fun H11 locs w9 e10 hW => ?_)
  have f12 := (up_n e10 (by decide)).trans g8
  have f13 := up_s e10
  refine lv_aload_n hx hb dX5_init_12 rfl (lv_at hl 0 rfl) ?_
  refine lv_bipush (v := 12) hx hb dX5_init_13 (by decide) ?_
  refine kk_newq hx hb hown (hts (.classLink RX5 15 "UndoCellar$Row") (by decide +kernel)) hE.AO.2.1 hE hW 2 4 rfl (by decide) (N' := 12) (by decide) (by decide) (Nat.le_of_ble_eq_true rfl) (Nat.le_of_ble_eq_true rfl) dX5_init_15 (fun H18 ad14 w15 ea16 e17 hW => ?_)
  have a19 : ad14 0 = ad1 0 := up_n ea16 (by decide)
  have a20 : ad14 1 = ad1 1 := up_n ea16 (by decide)
  rw [← a19] at hl
  have f21 := (up_n e17 (by decide)).trans f12
  have f22 := (up_n e17 (by decide)).trans f13
  rw [← a20] at f22
  refine W.eq (g2 := F0 m 18 ls [.ref (ad14 2), .ref (ad14 0)]) (by rw [a19]) ?_
  have g23 := up_s e17
  refine kk_putF hx hb hts hown hE hW f22 rfl hiRX5 tyX5 tyX5_ok nmX5 1 (by decide) (hts (.fieldLink RX5 17 "UndoCellar" "rows" "[LUndoCellar$Row;") (by decide +kernel)) (fun _ h9 => h9) rfl hin rfl (ty := tyX5 1) (tyX5_ok 1 (by decide)) rfl rfl (Nat.le_of_ble_eq_true rfl) dX5_init_18 (fun H26 locs w24 e25 hW => ?_)
  have f27 := (up_n e25 (by decide)).trans f21
  have f28 := (up_n e25 (by decide)).trans g23
  have f29 := up_s e25
  refine lv_aload_n hx hb dX5_init_21 rfl (lv_at hl 0 rfl) ?_
  refine kk_new (ci := 0) hx hb hts hown hE hW 3 rfl hiRJx4a65c tyJx4a65c tyJx4a65c_ok (hts (.classLink RX5 21 RJx4a65c) (by decide +kernel)) (hts (.instantiable RJx4a65c 3) (by decide +kernel)) (hts (.initialized RJx4a65c) (by decide +kernel)) (fs := [.int 0, .null, .int 0]) (by intro j hj; match j, hj with | 0, _ => rfl | 1, _ => rfl | 2, _ => rfl) (Nat.le_of_ble_eq_true rfl) (Nat.le_of_ble_eq_true rfl) dX5_init_22 (fun H34 ad30 w31 ea32 e33 hW => ?_)
  have a35 : ad30 0 = ad14 0 := up_n ea32 (by decide)
  have a36 : ad30 1 = ad14 1 := up_n ea32 (by decide)
  have a37 : ad30 2 = ad14 2 := up_n ea32 (by decide)
  rw [← a35] at hl
  have f38 := (up_n e33 (by decide)).trans f27
  have f39 := (up_n e33 (by decide)).trans f28
  have f40 := (up_n e33 (by decide)).trans f29
  rw [← a36, ← a37] at f40
  refine W.eq (g2 := F0 m 25 ls [.ref (ad30 3), .ref (ad30 0)]) (by rw [a35]) ?_
  have g41 := up_s e33
  refine lv_dup hx hb dX5_init_25 rfl ?_
  refine kk_v (va_runI (As := []) (rest := [.ref (ad30 3), .ref (ad30 0)]) ⟨hx, hb, hml, hown, hts⟩ (c_inAL l D A ad30 w31 3 .null 0 0 g41) (cwI 0 hts gX5_init_Jx4a65c_init_da8c8 rfl rfl rfl (hts (.initialized RJx4a65c) (by decide +kernel)) (hts (.methodLink RX5 23 yJx4a65c_init_da8c8) (by decide +kernel)) (hts (.instanceMethod yJx4a65c_init_da8c8) (by decide +kernel)) rfl (by decide +kernel) ⟨Nat.le_of_ble_eq_true rfl, Nat.le_of_ble_eq_true rfl⟩) (kSt hE hW _) rfl rfl hl.1 rfl (lv_room (Nat.le_of_ble_eq_true rfl)) dX5_init_26 ⟨Nat.le_of_ble_eq_true rfl, Nat.le_of_ble_eq_true rfl⟩) hW (fun ad42 w43 H46 locs hp44 hW => ?_)
  obtain ⟨e47, g48, f49⟩ := hp44
  rw [e47] at hW
  have f50 := (f49 1 (by decide)).trans f38
  have f51 := (f49 2 (by decide)).trans f39
  have f52 := (f49 0 (by decide)).trans f40
  refine kk_putF hx hb hts hown hE hW f52 rfl hiRX5 tyX5 tyX5_ok nmX5 2 (by decide) (hts (.fieldLink RX5 24 "UndoCellar" "begun" "Ljava/util/ArrayList;") (by decide +kernel)) (fun _ h9 => h9) rfl hin rfl (ty := tyX5 2) (tyX5_ok 2 (by decide)) rfl rfl (Nat.le_of_ble_eq_true rfl) dX5_init_29 (fun H55 locs w53 e54 hW => ?_)
  have f56 := (up_n e54 (by decide)).trans f50
  have f57 := (up_n e54 (by decide)).trans f51
  have f58 := (up_n e54 (by decide)).trans g48
  have f59 := up_s e54
  refine lv_aload_n hx hb dX5_init_32 rfl (lv_at hl 0 rfl) ?_
  refine kk_new (ci := 0) hx hb hts hown hE hW 4 rfl hiRJx4a65c tyJx4a65c tyJx4a65c_ok (hts (.classLink RX5 21 RJx4a65c) (by decide +kernel)) (hts (.instantiable RJx4a65c 3) (by decide +kernel)) (hts (.initialized RJx4a65c) (by decide +kernel)) (fs := [.int 0, .null, .int 0]) (by intro j hj; match j, hj with | 0, _ => rfl | 1, _ => rfl | 2, _ => rfl) (Nat.le_of_ble_eq_true rfl) (Nat.le_of_ble_eq_true rfl) dX5_init_33 (fun H64 ad60 w61 ea62 e63 hW => ?_)
  have a65 : ad60 0 = ad30 0 := up_n ea62 (by decide)
  have a66 : ad60 1 = ad30 1 := up_n ea62 (by decide)
  have a67 : ad60 2 = ad30 2 := up_n ea62 (by decide)
  have a68 : ad60 3 = ad30 3 := up_n ea62 (by decide)
  rw [← a65] at hl
  have f69 := (up_n e63 (by decide)).trans f56
  have f70 := (up_n e63 (by decide)).trans f57
  have f71 := (up_n e63 (by decide)).trans f58
  have f72 := (up_n e63 (by decide)).trans f59
  rw [← a66, ← a67, ← a68] at f72
  refine W.eq (g2 := F0 m 36 ls [.ref (ad60 4), .ref (ad60 0)]) (by rw [a65]) ?_
  have g73 := up_s e63
  refine lv_dup hx hb dX5_init_36 rfl ?_
  refine kk_v (va_runI (As := []) (rest := [.ref (ad60 4), .ref (ad60 0)]) ⟨hx, hb, hml, hown, hts⟩ (c_inAL l D A ad60 w61 4 .null 0 0 g73) (cwI 0 hts gX5_init_Jx4a65c_init_da8c8 rfl rfl rfl (hts (.initialized RJx4a65c) (by decide +kernel)) (hts (.methodLink RX5 23 yJx4a65c_init_da8c8) (by decide +kernel)) (hts (.instanceMethod yJx4a65c_init_da8c8) (by decide +kernel)) rfl (by decide +kernel) ⟨Nat.le_of_ble_eq_true rfl, Nat.le_of_ble_eq_true rfl⟩) (kSt hE hW _) rfl rfl hl.1 rfl (lv_room (Nat.le_of_ble_eq_true rfl)) dX5_init_37 ⟨Nat.le_of_ble_eq_true rfl, Nat.le_of_ble_eq_true rfl⟩) hW (fun ad74 w75 H78 locs hp76 hW => ?_)
  obtain ⟨e79, g80, f81⟩ := hp76
  rw [e79] at hW
  have f82 := (f81 1 (by decide)).trans f69
  have f83 := (f81 2 (by decide)).trans f70
  have f84 := (f81 3 (by decide)).trans f71
  have f85 := (f81 0 (by decide)).trans f72
  refine kk_putF hx hb hts hown hE hW f85 rfl hiRX5 tyX5 tyX5_ok nmX5 3 (by decide) (hts (.fieldLink RX5 28 "UndoCellar" "changes" "Ljava/util/ArrayList;") (by decide +kernel)) (fun _ h9 => h9) rfl hin rfl (ty := tyX5 3) (tyX5_ok 3 (by decide)) rfl rfl (Nat.le_of_ble_eq_true rfl) dX5_init_40 (fun H88 locs w86 e87 hW => ?_)
  have f89 := (up_n e87 (by decide)).trans f82
  have f90 := (up_n e87 (by decide)).trans f83
  have f91 := (up_n e87 (by decide)).trans f84
  have f92 := (up_n e87 (by decide)).trans g80
  have f93 := up_s e87
  refine lv_aload_n hx hb dX5_init_43 rfl (lv_at hl 0 rfl) ?_
  refine lv_bipush (v := 12) hx hb dX5_init_44 (by decide) ?_
  refine kk_put hx hb hts hown hE hW f93 rfl hiRX5 tyX5 tyX5_ok nmX5 4 (by decide) (hts (.fieldLink RX5 31 "UndoCellar" "space" "I") (by decide +kernel)) (fun _ h9 => h9) rfl (ty := tyX5 4) (tyX5_ok 4 (by decide)) rfl rfl (Nat.le_of_ble_eq_true rfl) dX5_init_46 (fun H96 locs w94 e95 hW => ?_)
  have f97 := (up_n e95 (by decide)).trans f89
  have f98 := (up_n e95 (by decide)).trans f90
  have f99 := (up_n e95 (by decide)).trans f91
  have f100 := (up_n e95 (by decide)).trans f92
  have f101 := up_s e95
  refine lv_aload_n hx hb dX5_init_49 rfl (lv_at hl 0 rfl) ?_
  refine lv_iconst (v := 0) hx hb dX5_init_50 (by decide) ?_
  refine kk_put hx hb hts hown hE hW f101 rfl hiRX5 tyX5 tyX5_ok nmX5 5 (by decide) (hts (.fieldLink RX5 35 "UndoCellar" "momentOfNow" "I") (by decide +kernel)) (fun _ h9 => h9) rfl (ty := tyX5 5) (tyX5_ok 5 (by decide)) rfl rfl (Nat.le_of_ble_eq_true rfl) dX5_init_51 (fun H104 locs w102 e103 hW => ?_)
  have f105 := (up_n e103 (by decide)).trans f97
  have f106 := (up_n e103 (by decide)).trans f98
  have f107 := (up_n e103 (by decide)).trans f99
  have f108 := (up_n e103 (by decide)).trans f100
  have f109 := up_s e103
  refine lv_aload_n hx hb dX5_init_54 rfl (lv_at hl 0 rfl) ?_
  refine lv_iconst (v := 0) hx hb dX5_init_55 (by decide) ?_
  refine kk_put hx hb hts hown hE hW f109 rfl hiRX5 tyX5 tyX5_ok nmX5 6 (by decide) (hts (.fieldLink RX5 38 "UndoCellar" "markedSoFar" "I") (by decide +kernel)) (fun _ h9 => h9) rfl (ty := tyX5 6) (tyX5_ok 6 (by decide)) rfl rfl (Nat.le_of_ble_eq_true rfl) dX5_init_56 (fun H112 locs w110 e111 hW => ?_)
  have f113 := (up_n e111 (by decide)).trans f105
  have f114 := (up_n e111 (by decide)).trans f106
  have f115 := (up_n e111 (by decide)).trans f107
  have f116 := (up_n e111 (by decide)).trans f108
  have f117 := up_s e111
  refine lv_aload_n hx hb dX5_init_59 rfl (lv_at hl 0 rfl) ?_
  refine lv_iconst (v := 0) hx hb dX5_init_60 (by decide) ?_
  refine kk_put hx hb hts hown hE hW f117 rfl hiRX5 tyX5 tyX5_ok nmX5 7 (by decide) (hts (.fieldLink RX5 41 "UndoCellar" "droppedSoFar" "I") (by decide +kernel)) (fun _ h9 => h9) rfl (ty := tyX5 7) (tyX5_ok 7 (by decide)) rfl rfl (Nat.le_of_ble_eq_true rfl) dX5_init_61 (fun H120 locs w118 e119 hW => ?_)
  have f121 := (up_n e119 (by decide)).trans f113
  have f122 := (up_n e119 (by decide)).trans f114
  have f123 := (up_n e119 (by decide)).trans f115
  have f124 := (up_n e119 (by decide)).trans f116
  have f125 := up_s e119
  refine lv_iconst (v := 0) hx hb dX5_init_64 (by decide) ?_
  refine lv_istore_n (lv' := [(1, .int 0), (0, .ref (ad60 0))]) hx hb dX5_init_65 rfl hl (by decide) rfl (fun ls hl => ?_)
  have hI : IB D ad w 0 0 ad60 w118 (fun _ => none) (fun _ => none) := ⟨f125, f121, f122, f123, f124, fun b hb => absurd hb (Nat.not_lt_zero b), fun b hb => absurd hb (Nat.not_lt_zero b), fun k hk => ⟨((up_n e119 (by omega)).trans ((up_n e111 (by omega)).trans ((up_n e103 (by omega)).trans ((up_n e95 (by omega)).trans ((up_n e87 (by omega)).trans ((f81 k (by omega)).trans ((up_n e63 (by omega)).trans ((up_n e54 (by omega)).trans ((f49 k (by omega)).trans ((up_n e33 (by omega)).trans ((up_n e25 (by omega)).trans ((up_n e17 (by omega)).trans ((up_n e10 (by omega)).trans ((up_n e4 (by omega)).trans rfl)))))))))))))), ((up_n ea62 (by omega)).trans ((up_n ea32 (by omega)).trans ((up_n ea16 (by omega)).trans ((up_n ea3 (by omega)).trans rfl))))⟩, ((up_n ea62 (by decide)).trans ((up_n ea32 (by decide)).trans ((up_n ea16 (by decide)).trans ((up_n ea3 (by decide)).trans rfl))))⟩
  have loop2 : ∀ (d i : Nat) (ad1 : Nat → Nat) (w1 : kWd) (fB fR : Nat → Option Nat) (H : Heap) (locs : List Loc), i + d = 12 → IB D ad w 3 i ad1 w1 fB fR → kS D A s.heap ad1 w1 H locs → ∀ ls, lv_has ls 2 [(1, .int (nI i)), (0, .ref (ad1 0))] → W p l e ({ frames := 5, cells := 28, slots := 66, locals := 210 }) s m ([.ref (ad 0)] : List Value).toArray below meth c H locs (16 + i) (42 + 2 * i) (MQ below (kQv D A (fun ad' w' => CW D St0 ad' w' 0 0 ∧ FrC ad w ad' w' ∧ ad' 0 = ad 0)) ([.ref (ad 0)] : List Value).toArray s 28 66 A) (F0 m 96 ls []) := by
    intro d
    induction d with
    | zero =>
      intro i ad1 w1 fB fR H locs hi hI hW ls hl
      obtain rfl : i = 12 := by omega
      obtain ⟨hU, hB1, hR2, hL3, hL4, hbb, hrr, hFr, had0⟩ := id hI
      replace hU : w1 0 = some (.inr (6, [.ref (ad1 1), .ref (ad1 2), .ref (ad1 3), .ref (ad1 4), .int 12, .int 0, .int 0, .int 0])) := hU
      refine lv_iload_n hx hb dX5_init_96 rfl (lv_at hl 0 rfl) ?_
      refine lv_aload_n hx hb dX5_init_97 rfl (lv_at hl 1 rfl) ?_
      refine kk_get hx hb hts hown hE hW hU rfl hiRX5 1 (by decide) (hts (.fieldLink RX5 17 "UndoCellar" "rows" "[LUndoCellar$Row;") (by decide +kernel)) (fun _ h9 => h9) rfl dX5_init_98 ?_
      refine kk_alen hx hb hE hW 4 hR2 rfl (v := nI 12) rfl dX5_init_101 ?_
      refine lv_icmp_ge (tgt := 132) hx hb dX5_init_102 (by decide) (fun _ => ?_) (fun c9 => absurd (by decide) c9)
      exact ke_v hx hb hr hlocks (Nat.le_of_ble_eq_true rfl) (Nat.le_of_ble_eq_true rfl) dX5_init_132 hW (⟨hI.cw, hFr, had0⟩)
    | succ d ih =>
      intro i ad1 w1 fB fR H locs hi hI hW ls hl
      have hi12 : i < 12 := by omega
      obtain ⟨hU, hB1, hR2, hL3, hL4, hbb, hrr, hFr, had0⟩ := id hI
      replace hU : w1 0 = some (.inr (6, [.ref (ad1 1), .ref (ad1 2), .ref (ad1 3), .ref (ad1 4), .int 12, .int 0, .int 0, .int 0])) := hU
      refine lv_iload_n hx hb dX5_init_96 rfl (lv_at hl 0 rfl) ?_
      refine lv_aload_n hx hb dX5_init_97 rfl (lv_at hl 1 rfl) ?_
      refine kk_get hx hb hts hown hE hW hU rfl hiRX5 1 (by decide) (hts (.fieldLink RX5 17 "UndoCellar" "rows" "[LUndoCellar$Row;") (by decide +kernel)) (fun _ h9 => h9) rfl dX5_init_98 ?_
      refine kk_alen hx hb hE hW 4 hR2 rfl (v := nI 12) rfl dX5_init_101 ?_
      refine lv_icmp_ge (tgt := 132) hx hb dX5_init_102 (by decide) (fun c9 => absurd c9 (nI_ge (by omega) (by omega))) (fun _ => ?_)
      refine lv_aload_n hx hb dX5_init_105 rfl (lv_at hl 1 rfl) ?_
      refine kk_get hx hb hts hown hE hW hU rfl hiRX5 1 (by decide) (hts (.fieldLink RX5 17 "UndoCellar" "rows" "[LUndoCellar$Row;") (by decide +kernel)) (fun _ h9 => h9) rfl dX5_init_106 ?_
      refine lv_iload_n hx hb dX5_init_109 rfl (lv_at hl 0 rfl) ?_
      refine kk_new (ci := 3) hx hb hts hown hE hW (24 + i) rfl hiRX2 tyX2 tyX2_ok (hts (.classLink RX5 15 RX2) (by decide +kernel)) (hts (.instantiable RX2 2) (by decide +kernel)) (hts (.initialized RX2) (by decide +kernel)) (fs := [.null, .int 0]) (by intro j hj; match j, hj with | 0, _ => rfl | 1, _ => rfl) (show 16 + i + 1 ≤ 28 by omega) (show 42 + 2 * i + 2 ≤ 66 by omega) dX5_init_110 (fun H130 ad126 w127 ea128 e129 hW => ?_)
      have a131 : ad126 0 = ad1 0 := up_n ea128 (by omega)
      have a132 : ad126 2 = ad1 2 := up_n ea128 (by omega)
      have a133 : ad126 1 = ad1 1 := up_n ea128 (by omega)
      have a134 : ad126 3 = ad1 3 := up_n ea128 (by omega)
      have a135 : ad126 4 = ad1 4 := up_n ea128 (by omega)
      rw [← a131] at hl
      have f136 := (up_n e129 (by omega)).trans hU
      rw [← a133, ← a132, ← a134, ← a135] at f136
      have f137 := (up_n e129 (by omega)).trans hB1
      have f138 := (up_n e129 (by omega)).trans hR2
      refine W.eq (g2 := F0 m 113 ls [.ref (ad126 (24 + i)), .int (nI i), .ref (ad126 2)]) (by rw [a132]) ?_
      have g139 := up_s e129
      refine lv_dup hx hb dX5_init_113 rfl ?_
      refine lv_aload_n hx hb dX5_init_114 rfl (lv_at hl 1 rfl) ?_
      refine kk_get hx hb hts hown hE hW f136 rfl hiRX5 0 (by decide) (hts (.fieldLink RX5 11 "UndoCellar" "blocks" "[LUndoCellar$Block;") (by decide +kernel)) (fun _ h9 => h9) rfl dX5_init_115 ?_
      refine lv_iload_n hx hb dX5_init_118 rfl (lv_at hl 0 rfl) ?_
      refine lv_iconst (v := 4) hx hb dX5_init_119 (by decide) ?_
      refine lv_idiv hx hb dX5_init_120 (by decide) ?_
      rw [show nI i / 4 = nI (i / 4) from pk_div (d := 4) (by omega) (by decide) (by decide)]
      have h10 : ad126 (10 + i / 4) = ad1 (10 + i / 4) := up_n ea128 (by omega)
      refine kk_aald hx hb hE hW 3 rfl f137 (vp_in_nI (show i / 4 < 3 by omega) (by omega)) (v := .ref (ad126 (10 + i / 4))) (by rw [nI_clamp (show i / 4 < 2 ^ 31 by omega), (hbb (i / 4) (by omega)).1, h10]; rfl) dX5_init_121 ?_
      refine kk_v (va_runIN (As := [.ref (ad126 (10 + i / 4))]) (rest := [.ref (ad126 (24 + i)), .int (nI i), .ref (ad126 2)]) ⟨hx, hb, hml, hown, hts⟩ (k_X2_init l D A ad126 w127 (24 + i) (10 + i / 4) g139) ⟨va_cnB 1 hts gX5_init_X2_init_n45 rfl rfl rfl (hE.N 27 rfl) (hts (.initialized RX2) (by decide +kernel)) (by decide +kernel) ⟨Nat.le_of_ble_eq_true rfl, Nat.le_of_ble_eq_true rfl⟩, rfl, hts (.instanceMethod yX2_init) (by decide +kernel)⟩ (kSt hE hW _) rfl rfl hl.1 rfl (lv_room (Nat.le_of_ble_eq_true rfl)) dX5_init_122 ⟨show 16 + i + 1 + 0 ≤ 28 by omega, show 42 + 2 * i + 2 + 0 ≤ 66 by omega⟩) hW (fun ad140 w141 H144 locs hp142 hW => ?_)
      obtain ⟨e2, g1, f1⟩ := hp142
      rw [e2] at hW
      have f145 := (f1 0 (by omega)).trans f136
      have f146 := (f1 1 (by omega)).trans f137
      have f147 := (f1 2 (by omega)).trans f138
      refine kk_aast hx hb hE hW 4 rfl f147 g1 (r := (RX2, TX2, 2)) rfl (fun comp c0 h1 h2 => by cases h1.symm.trans h2; exact va_asg _ _) (vp_in_nI hi12 (by omega)) dX5_init_125 (fun H150 locs w148 e149 hW => ?_)
      rw [nI_clamp (show i < 2 ^ 31 by omega)] at e149
      have f151 := (up_n e149 (by decide)).trans f145
      have f152 := (up_n e149 (by decide)).trans f146
      have f154 := (up_n e149 (by omega)).trans g1
      have f155 := up_s e149
      have fw : ∀ k, k ≠ 2 → k ≠ 24 + i → w148 k = w1 k := fun k h2 h3 => (up_n e149 h2).trans ((f1 k h3).trans (up_n e129 h3))
      have fa : ∀ k, k ≠ 24 + i → ad126 k = ad1 k := fun k h3 => up_n ea128 h3
      have hI2 : IB D ad w 3 (i + 1) ad126 w148 fB (va_up fR i (some (ad126 (24 + i)))) := by
        refine ⟨f151, f152, f155, (fw 3 (by decide) (by omega)).trans hL3, (fw 4 (by decide) (by omega)).trans hL4, fun b hb => ⟨by rw [(hbb b hb).1, fa (10 + b) (by omega)], (hbb b hb).2.keep (fun k hk => ⟨fw k (by omega) (by omega), fa k (by omega)⟩)⟩, fun q hq => ?_, fun k hk => ⟨(fw k (by omega) (by omega)).trans (hFr k hk).1, (fa k (by omega)).trans (hFr k hk).2⟩, (fa 0 (by omega)).trans had0⟩
        by_cases c9 : q = i
        · subst c9
          exact ⟨va_up_self _ _ _, f154⟩
        · refine ⟨(va_up_ne _ _ c9).trans ?_, ?_⟩
          · rw [(hrr q (by omega)).1, fa (24 + q) (by omega)]
          · rw [fw (24 + q) (by omega) (by omega), (hrr q (by omega)).2, fa (10 + q / 4) (by omega)]
      refine lv_iinc (v := nI (i + 1)) (lv' := [(1, .int (nI (i + 1))), (0, .ref (ad126 0))]) hx hb dX5_init_126 hl (k := 0) rfl (nI_1 i) (by decide) rfl (fun ls hl => ?_)
      refine lv_goto (tgt := 96) hx hb dX5_init_129 (by decide) ?_
      exact W_cs (c2 := 16 + (i + 1)) (s2 := 42 + 2 * (i + 1)) (by omega) (by omega) (ih (i + 1) _ _ _ _ _ _ (by omega) hI2 hW ls (lv_sub hl [0, 1] rfl))
  have loop1 : ∀ (d i : Nat) (ad1 : Nat → Nat) (w1 : kWd) (fB fR : Nat → Option Nat) (H : Heap) (locs : List Loc), i + d = 3 → IB D ad w i 0 ad1 w1 fB fR → kS D A s.heap ad1 w1 H locs → ∀ ls, lv_has ls 2 [(1, .int (nI i)), (0, .ref (ad1 0))] → W p l e ({ frames := 5, cells := 28, slots := 66, locals := 210 }) s m ([.ref (ad 0)] : List Value).toArray below meth c H locs (4 + 4 * i) (21 + 7 * i) (MQ below (kQv D A (fun ad' w' => CW D St0 ad' w' 0 0 ∧ FrC ad w ad' w' ∧ ad' 0 = ad 0)) ([.ref (ad 0)] : List Value).toArray s 28 66 A) (F0 m 66 ls []) := by
    intro d
    induction d with
    | zero =>
      intro i ad1 w1 fB fR H locs hi hI hW ls hl
      obtain rfl : i = 3 := by omega
      obtain ⟨hU, hB1, hR2, hL3, hL4, hbb, hrr, hFr, had0⟩ := id hI
      replace hU : w1 0 = some (.inr (6, [.ref (ad1 1), .ref (ad1 2), .ref (ad1 3), .ref (ad1 4), .int 12, .int 0, .int 0, .int 0])) := hU
      refine lv_iload_n hx hb dX5_init_66 rfl (lv_at hl 0 rfl) ?_
      refine lv_aload_n hx hb dX5_init_67 rfl (lv_at hl 1 rfl) ?_
      refine kk_get hx hb hts hown hE hW hU rfl hiRX5 0 (by decide) (hts (.fieldLink RX5 11 "UndoCellar" "blocks" "[LUndoCellar$Block;") (by decide +kernel)) (fun _ h9 => h9) rfl dX5_init_68 ?_
      refine kk_alen hx hb hE hW 3 hB1 rfl (v := nI 3) rfl dX5_init_71 ?_
      refine lv_icmp_ge (tgt := 94) hx hb dX5_init_72 (by decide) (fun _ => ?_) (fun c9 => absurd (by decide) c9)
      refine lv_iconst (v := 0) hx hb dX5_init_94 (by decide) ?_
      refine lv_istore_n (lv' := [(1, .int 0), (0, .ref (ad1 0))]) hx hb dX5_init_95 rfl hl (by decide) rfl (fun ls hl => ?_)
      exact W_cs (c2 := 16 + 0) (s2 := 42 + 2 * 0) rfl rfl (loop2 12 0 ad1 w1 fB fR _ _ rfl hI hW ls (lv_sub hl [0, 1] rfl))
    | succ d ih =>
      intro i ad1 w1 fB fR H locs hi hI hW ls hl
      have hi3 : i < 3 := by omega
      obtain ⟨hU, hB1, hR2, hL3, hL4, hbb, hrr, hFr, had0⟩ := id hI
      replace hU : w1 0 = some (.inr (6, [.ref (ad1 1), .ref (ad1 2), .ref (ad1 3), .ref (ad1 4), .int 12, .int 0, .int 0, .int 0])) := hU
      refine lv_iload_n hx hb dX5_init_66 rfl (lv_at hl 0 rfl) ?_
      refine lv_aload_n hx hb dX5_init_67 rfl (lv_at hl 1 rfl) ?_
      refine kk_get hx hb hts hown hE hW hU rfl hiRX5 0 (by decide) (hts (.fieldLink RX5 11 "UndoCellar" "blocks" "[LUndoCellar$Block;") (by decide +kernel)) (fun _ h9 => h9) rfl dX5_init_68 ?_
      refine kk_alen hx hb hE hW 3 hB1 rfl (v := nI 3) rfl dX5_init_71 ?_
      refine lv_icmp_ge (tgt := 94) hx hb dX5_init_72 (by decide) (fun c9 => absurd c9 (nI_ge (by omega) (by omega))) (fun _ => ?_)
      refine lv_aload_n hx hb dX5_init_75 rfl (lv_at hl 1 rfl) ?_
      refine kk_get hx hb hts hown hE hW hU rfl hiRX5 0 (by decide) (hts (.fieldLink RX5 11 "UndoCellar" "blocks" "[LUndoCellar$Block;") (by decide +kernel)) (fun _ h9 => h9) rfl dX5_init_76 ?_
      refine lv_iload_n hx hb dX5_init_79 rfl (lv_at hl 0 rfl) ?_
      refine kk_new (ci := 1) hx hb hts hown hE hW (10 + i) rfl hiRX0 tyX0 tyX0_ok (hts (.classLink RX5 9 RX0) (by decide +kernel)) (hts (.instantiable RX0 1) (by decide +kernel)) (hts (.initialized RX0) (by decide +kernel)) (fs := [.null]) (by intro j hj; match j, hj with | 0, _ => rfl) (show 4 + 4 * i + 1 ≤ 28 by omega) (show 21 + 7 * i + 1 ≤ 66 by omega) dX5_init_80 (fun H160 ad156 w157 ea158 e159 hW => ?_)
      have a161 : ad156 0 = ad1 0 := up_n ea158 (by omega)
      have a162 : ad156 1 = ad1 1 := up_n ea158 (by omega)
      have a163 : ad156 2 = ad1 2 := up_n ea158 (by omega)
      have a164 : ad156 3 = ad1 3 := up_n ea158 (by omega)
      have a165 : ad156 4 = ad1 4 := up_n ea158 (by omega)
      rw [← a161] at hl
      have f166 := (up_n e159 (by omega)).trans hU
      rw [← a162, ← a163, ← a164, ← a165] at f166
      have f167 := (up_n e159 (by omega)).trans hB1
      have f168 := (up_n e159 (by omega)).trans hR2
      refine W.eq (g2 := F0 m 83 ls [.ref (ad156 (10 + i)), .int (nI i), .ref (ad156 1)]) (by rw [a162]) ?_
      have g169 := up_s e159
      refine lv_dup hx hb dX5_init_83 rfl ?_
      refine kk_v (va_runIN (As := []) (rest := [.ref (ad156 (10 + i)), .int (nI i), .ref (ad156 1)]) ⟨hx, hb, hml, hown, hts⟩ (k_X0_init l D A ad156 w157 (10 + i) (13 + i) (16 + 2 * i) (16 + 2 * i + 1) (by omega) (by omega) (by omega) (by omega) (by omega) (by omega) g169) ⟨va_cnB 0 hts gX5_init_X0_init_n44 rfl rfl rfl (hE.N 26 rfl) (hts (.initialized RX0) (by decide +kernel)) (by decide +kernel) ⟨Nat.le_of_ble_eq_true rfl, Nat.le_of_ble_eq_true rfl⟩, rfl, hts (.instanceMethod yX0_init) (by decide +kernel)⟩ (kSt hE hW _) rfl rfl hl.1 rfl (lv_room (Nat.le_of_ble_eq_true rfl)) dX5_init_84 ⟨show 4 + 4 * i + 1 + 3 ≤ 28 by omega, show 21 + 7 * i + 1 + 6 ≤ 66 by omega⟩) hW (fun ad170 w171 H174 locs hp172 hW => ?_)
      obtain ⟨gb, gs, gk0, gk1, fw1, fa1⟩ := hp172
      have a175 : ad170 0 = ad156 0 := fa1 0 (by omega) (by omega) (by omega)
      have a176 : ad170 (10 + i) = ad156 (10 + i) := fa1 (10 + i) (by omega) (by omega) (by omega)
      have a177 : ad170 1 = ad156 1 := fa1 1 (by omega) (by omega) (by omega)
      have a178 : ad170 2 = ad156 2 := fa1 2 (by omega) (by omega) (by omega)
      have a179 : ad170 3 = ad156 3 := fa1 3 (by omega) (by omega) (by omega)
      have a180 : ad170 4 = ad156 4 := fa1 4 (by omega) (by omega) (by omega)
      rw [← a175] at hl
      have f181 := (fw1 0 (by omega) (by omega) (by omega) (by omega)).trans f166
      rw [← a177, ← a178, ← a179, ← a180] at f181
      have f182 := (fw1 1 (by omega) (by omega) (by omega) (by omega)).trans f167
      have f183 := (fw1 2 (by omega) (by omega) (by omega) (by omega)).trans f168
      refine W.eq (g2 := F0 m 87 ls [.ref (ad170 (10 + i)), .int (nI i), .ref (ad170 1)]) (by rw [a176, a177]) ?_
      refine kk_aast hx hb hE hW 3 rfl f182 gb (r := (RX0, TX0, 1)) rfl (fun comp c0 h1 h2 => by cases h1.symm.trans h2; exact va_asg _ _) (vp_in_nI hi3 (by omega)) dX5_init_87 (fun H186 locs w184 e185 hW => ?_)
      rw [nI_clamp (show i < 2 ^ 31 by omega)] at e185
      have f187 := (up_n e185 (by decide)).trans f181
      have f189 := (up_n e185 (by decide)).trans f183
      have f190 := (up_n e185 (by omega)).trans gb
      have f191 := up_s e185
      have fw : ∀ k, k ≠ 1 → k ≠ 10 + i → k ≠ 13 + i → k ≠ 16 + 2 * i → k ≠ 16 + 2 * i + 1 → w184 k = w1 k := fun k h1 h2 h3 h4 h5 => (up_n e185 h1).trans ((fw1 k h2 h3 h4 h5).trans (up_n e159 h2))
      have fa : ∀ k, k ≠ 10 + i → k ≠ 13 + i → k ≠ 16 + 2 * i → k ≠ 16 + 2 * i + 1 → ad170 k = ad1 k := fun k h2 h3 h4 h5 => (fa1 k h3 h4 h5).trans (up_n ea158 h2)
      have hI2 : IB D ad w (i + 1) 0 ad170 w184 (va_up fB i (some (ad170 (10 + i)))) fR := by
        refine ⟨f187, f191, f189, (fw 3 (by decide) (by omega) (by omega) (by omega) (by omega)).trans hL3, (fw 4 (by decide) (by omega) (by omega) (by omega) (by omega)).trans hL4, fun b hb => ?_, fun q hq => absurd hq (Nat.not_lt_zero q), fun k hk => ⟨(fw k (by omega) (by omega) (by omega) (by omega) (by omega)).trans (hFr k hk).1, (fa k (by omega) (by omega) (by omega) (by omega)).trans (hFr k hk).2⟩, (fa 0 (by omega) (by omega) (by omega) (by omega)).trans had0⟩
        by_cases c9 : b = i
        · subst c9
          obtain ⟨f9, q1, q2, q3⟩ := gs
          exact ⟨va_up_self _ _ _, f190, ⟨f9, (up_n e185 (by omega)).trans q1, q2, q3⟩, (up_n e185 (by omega)).trans gk0, (up_n e185 (by omega)).trans gk1⟩
        · refine ⟨(va_up_ne _ _ c9).trans ?_, (hbb b (by omega)).2.keep (fun k hk => ⟨fw k (by omega) (by omega) (by omega) (by omega) (by omega), fa k (by omega) (by omega) (by omega) (by omega)⟩)⟩
          rw [(hbb b (by omega)).1, fa (10 + b) (by omega) (by omega) (by omega) (by omega)]
      refine lv_iinc (v := nI (i + 1)) (lv' := [(1, .int (nI (i + 1))), (0, .ref (ad170 0))]) hx hb dX5_init_88 hl (k := 0) rfl (nI_1 i) (by decide) rfl (fun ls hl => ?_)
      refine lv_goto (tgt := 66) hx hb dX5_init_91 (by decide) ?_
      exact W_cs (c2 := 4 + 4 * (i + 1)) (s2 := 21 + 7 * (i + 1)) (by omega) (by omega) (ih (i + 1) _ _ _ _ _ _ (by omega) hI2 hW ls (lv_sub hl [0, 1] rfl))
  exact W_cs (c2 := 4 + 4 * 0) (s2 := 21 + 7 * 0) rfl rfl (loop1 3 0 _ _ _ _ _ _ rfl hI hW ls (lv_sub hl [0, 1] rfl))

