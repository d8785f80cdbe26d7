/-! the reference's constructor -/
def fS0 (i : Nat) : Nat → Int32 := fun k => if k < i then -1 else 0
theorem fS0_s (i : Nat) : upd (fS0 i) i (-1) = fS0 (i + 1) := by
  funext k
  by_cases c : k = i
  · subst c
    rw [upd_s]
    exact (if_pos (Nat.lt_succ_self k)).symm
  · rw [upd_n c]
    unfold fS0
    by_cases d : k < i
    · rw [if_pos d, if_pos (by omega)]
    · rw [if_neg d, if_neg (by omega)]
theorem fS0_0 : fS0 0 = fun _ => 0 := by
  funext k
  exact if_neg (Nat.not_lt_zero k)
set_option maxHeartbeats 4000000 in
set_option maxRecDepth 100000 in
/-- k_X6_init -/
theorem k_X6_init (l : Launch) (D : va_G) (A : Nat → Prop) (ad : Nat → Nat) (w : kWd) (g0 : w 2000 = some (.inr (7, [.null, .int 0, .int 0, .int 0, .null, .null, .null, .int 0, .null, .null, .null, .null, .int 0, .null, .null, .int 0, .int 0, .int 0]))) : Met l yX6_init wsX6_init ({ frames := 1, cells := 10, slots := 8300, locals := 100 }) (kPc D A [.ref (ad 2000)] ad w) (kQv D A (fun ad' w' => MW D St0 ad' w w' ∧ (∀ k, (k < 2000 ∨ 2011 ≤ k) → ad' k = ad k) ∧ ad' 2000 = ad 2000)) 10 8300 A := by
  refine Met.ofW (cc := cX6_init) (maxL := 2) (ret := none) (by decide) rfl ?_
  intro p e s m args below meth c s₁ B hml hv
  obtain ⟨rfl, hE, hW0, hI0, hA⟩ := hv
  have hx := B.exec
  have hb := B.bytes
  have hr := B.returns
  have hts := atoms_spec (ws := wsX6_init) B.pre
  have hown : s.vm.findClass RX6 = some m.cls := findClass_of_methodNamed B.named
  have hlocks := B.notSynchronized
  have hin : meth.name = "<init>" := (name_of_methodNamed B.named B.method).1
  have hiRX6 : ∀ w ∈ wsX60, w ∈ wsX6_init := by decide +kernel
  have hW : kS D A s.heap ad w s.heap [] := ⟨hW0, hI0, va_S.rf, hA⟩
  have hl := lv_entry ([.ref (ad 2000)]) (n := 2) (Nat.le_of_ble_eq_true rfl)
  rw [lg_entry_eq]
  generalize (lg_sl ([.ref (ad 2000)]) ++ List.replicate (2 - (lg_sl ([.ref (ad 2000)])).length) Slot.unset).toArray = ls at hl ⊢
  have hl : lv_has ls 2 [(0, .ref (ad 2000))] := hl
  refine lv_aload_n hx hb dX6_init_0 rfl (lv_at hl 0 rfl) ?_
  refine W.objInit hx hb hown (hts (.methodLink RX6 1 objectInit) (by decide +kernel)) (hts (.instanceMethod objectInit) (by decide +kernel)) (hts (.code objectInit ⟨#[0xb1]⟩ 1 none) (by decide +kernel)) rfl (by rw [hml]; exact hl.1) rfl dX6_init_1 (Nat.le_of_ble_eq_true rfl) (Nat.le_of_ble_eq_true rfl) ?_
  refine W.eq (g2 := F0 m 4 ls []) rfl ?_
  refine lv_aload_n hx hb dX6_init_4 rfl (lv_at hl 0 rfl) ?_
  refine lv_bipush (v := 12) hx hb dX6_init_5 (by decide) ?_
  refine kk_newa (atype := .int) (ty := .int) hx hb (hts (.arrayClass .int) (by decide +kernel)) rfl hE hW 2001 0 rfl (fun h => va_nm_int h) (N' := 12) (a0 := (12, .inl (fun _ => 0))) (fun _ => rfl) (by decide) (by decide) (by decide) (Nat.le_of_ble_eq_true rfl) (Nat.le_of_ble_eq_true rfl) dX6_init_7 (fun H5 ad1 w2 ea3 e4 hW => ?_)
  have a6 : ad1 2000 = ad 2000 := up_n ea3 (by decide)
  rw [← a6] at hl
  have f7 := (up_n e4 (by decide)).trans g0
  refine W.eq (g2 := F0 m 9 ls [.ref (ad1 2001), .ref (ad1 2000)]) (by rw [a6]) ?_
  have g8 := up_s e4
  refine kk_putF hx hb hts hown hE hW f7 rfl hiRX6 tyX6 tyX6_ok nmX6 0 (by decide) (hts (.fieldLink RX6 7 "UndoCellarModel" "value" "[I") (by decide +kernel)) (fun _ h9 => h9) rfl hin rfl (ty := tyX6 0) (tyX6_ok 0 (by decide)) rfl rfl (Nat.le_of_ble_eq_true rfl) dX6_init_9 (fun H11 locs w9 e10 hW => ?_)
  have f12 := (up_n e10 (by decide)).trans g8
  have f13 := up_s e10
  refine lv_aload_n hx hb dX6_init_12 rfl (lv_at hl 0 rfl) ?_
  refine lv_bipush (v := 12) hx hb dX6_init_13 (by decide) ?_
  refine kk_put hx hb hts hown hE hW f13 rfl hiRX6 tyX6 tyX6_ok nmX6 1 (by decide) (hts (.fieldLink RX6 13 "UndoCellarModel" "size" "I") (by decide +kernel)) (fun _ h9 => h9) rfl (ty := tyX6 1) (tyX6_ok 1 (by decide)) rfl rfl (Nat.le_of_ble_eq_true rfl) dX6_init_15 (fun H16 locs w14 e15 hW => ?_)
  have f17 := (up_n e15 (by decide)).trans f12
  have f18 := up_s e15
  refine lv_aload_n hx hb dX6_init_18 rfl (lv_at hl 0 rfl) ?_
  refine lv_bipush (v := 60) hx hb dX6_init_19 (by decide) ?_
  refine kk_newa (atype := .int) (ty := .int) hx hb (hts (.arrayClass .int) (by decide +kernel)) rfl hE hW 2002 0 rfl (fun h => va_nm_int h) (N' := 60) (a0 := (60, .inl (fun _ => 0))) (fun _ => rfl) (by decide) (by decide) (by decide) (Nat.le_of_ble_eq_true rfl) (Nat.le_of_ble_eq_true rfl) dX6_init_21 (fun H23 ad19 w20 ea21 e22 hW => ?_)
  have a24 : ad19 2000 = ad1 2000 := up_n ea21 (by decide)
  have a25 : ad19 2001 = ad1 2001 := up_n ea21 (by decide)
  rw [← a24] at hl
  have f26 := (up_n e22 (by decide)).trans f17
  have f27 := (up_n e22 (by decide)).trans f18
  rw [← a25] at f27
  refine W.eq (g2 := F0 m 23 ls [.ref (ad19 2002), .ref (ad19 2000)]) (by rw [a24]) ?_
  have g28 := up_s e22
  refine kk_putF hx hb hts hown hE hW f27 rfl hiRX6 tyX6 tyX6_ok nmX6 4 (by decide) (hts (.fieldLink RX6 17 "UndoCellarModel" "state" "[I") (by decide +kernel)) (fun _ h9 => h9) rfl hin rfl (ty := tyX6 4) (tyX6_ok 4 (by decide)) rfl rfl (Nat.le_of_ble_eq_true rfl) dX6_init_23 (fun H31 locs w29 e30 hW => ?_)
  have f32 := (up_n e30 (by decide)).trans f26
  have f33 := (up_n e30 (by decide)).trans g28
  have f34 := up_s e30
  refine lv_aload_n hx hb dX6_init_26 rfl (lv_at hl 0 rfl) ?_
  refine lv_bipush (v := 60) hx hb dX6_init_27 (by decide) ?_
  refine kk_newa (atype := .int) (ty := .int) hx hb (hts (.arrayClass .int) (by decide +kernel)) rfl hE hW 2003 0 rfl (fun h => va_nm_int h) (N' := 60) (a0 := (60, .inl (fun _ => 0))) (fun _ => rfl) (by decide) (by decide) (by decide) (Nat.le_of_ble_eq_true rfl) (Nat.le_of_ble_eq_true rfl) dX6_init_29 (fun H39 ad35 w36 ea37 e38 hW => ?_)
  have a40 : ad35 2000 = ad19 2000 := up_n ea37 (by decide)
  have a41 : ad35 2001 = ad19 2001 := up_n ea37 (by decide)
  have a42 : ad35 2002 = ad19 2002 := up_n ea37 (by decide)
  rw [← a40] at hl
  have f43 := (up_n e38 (by decide)).trans f32
  have f44 := (up_n e38 (by decide)).trans f33
  have f45 := (up_n e38 (by decide)).trans f34
  rw [← a41, ← a42] at f45
  refine W.eq (g2 := F0 m 31 ls [.ref (ad35 2003), .ref (ad35 2000)]) (by rw [a40]) ?_
  have g46 := up_s e38
  refine kk_putF hx hb hts hown hE hW f45 rfl hiRX6 tyX6 tyX6_ok nmX6 5 (by decide) (hts (.fieldLink RX6 20 "UndoCellarModel" "asOf" "[I") (by decide +kernel)) (fun _ h9 => h9) rfl hin rfl (ty := tyX6 5) (tyX6_ok 5 (by decide)) rfl rfl (Nat.le_of_ble_eq_true rfl) dX6_init_31 (fun H49 locs w47 e48 hW => ?_)
  have f50 := (up_n e48 (by decide)).trans f43
  have f51 := (up_n e48 (by decide)).trans f44
  have f52 := (up_n e48 (by decide)).trans g46
  have f53 := up_s e48
  refine lv_aload_n hx hb dX6_init_34 rfl (lv_at hl 0 rfl) ?_
  refine lv_bipush (v := 60) hx hb dX6_init_35 (by decide) ?_
  refine kk_newa (atype := .int) (ty := .int) hx hb (hts (.arrayClass .int) (by decide +kernel)) rfl hE hW 2004 0 rfl (fun h => va_nm_int h) (N' := 60) (a0 := (60, .inl (fun _ => 0))) (fun _ => rfl) (by decide) (by decide) (by decide) (Nat.le_of_ble_eq_true rfl) (Nat.le_of_ble_eq_true rfl) dX6_init_37 (fun H58 ad54 w55 ea56 e57 hW => ?_)
  have a59 : ad54 2000 = ad35 2000 := up_n ea56 (by decide)
  have a60 : ad54 2001 = ad35 2001 := up_n ea56 (by decide)
  have a61 : ad54 2002 = ad35 2002 := up_n ea56 (by decide)
  have a62 : ad54 2003 = ad35 2003 := up_n ea56 (by decide)
  rw [← a59] at hl
  have f63 := (up_n e57 (by decide)).trans f50
  have f64 := (up_n e57 (by decide)).trans f51
  have f65 := (up_n e57 (by decide)).trans f52
  have f66 := (up_n e57 (by decide)).trans f53
  rw [← a60, ← a61, ← a62] at f66
  refine W.eq (g2 := F0 m 39 ls [.ref (ad54 2004), .ref (ad54 2000)]) (by rw [a59]) ?_
  have g67 := up_s e57
  refine kk_putF hx hb hts hown hE hW f66 rfl hiRX6 tyX6 tyX6_ok nmX6 6 (by decide) (hts (.fieldLink RX6 23 "UndoCellarModel" "committedAt" "[I") (by decide +kernel)) (fun _ h9 => h9) rfl hin rfl (ty := tyX6 6) (tyX6_ok 6 (by decide)) rfl rfl (Nat.le_of_ble_eq_true rfl) dX6_init_39 (fun H70 locs w68 e69 hW => ?_)
  have f71 := (up_n e69 (by decide)).trans f63
  have f72 := (up_n e69 (by decide)).trans f64
  have f73 := (up_n e69 (by decide)).trans f65
  have f74 := (up_n e69 (by decide)).trans g67
  have f75 := up_s e69
  refine lv_aload_n hx hb dX6_init_42 rfl (lv_at hl 0 rfl) ?_
  refine lv_sipush (v := 2000) hx hb dX6_init_43 (by decide) ?_
  refine kk_newa (atype := .int) (ty := .int) hx hb (hts (.arrayClass .int) (by decide +kernel)) rfl hE hW 2005 0 rfl (fun h => va_nm_int h) (N' := 2000) (a0 := (2000, .inl (fun _ => 0))) (fun _ => rfl) (by decide) (by decide) (by decide) (Nat.le_of_ble_eq_true rfl) (Nat.le_of_ble_eq_true rfl) dX6_init_46 (fun H80 ad76 w77 ea78 e79 hW => ?_)
  have a81 : ad76 2000 = ad54 2000 := up_n ea78 (by decide)
  have a82 : ad76 2001 = ad54 2001 := up_n ea78 (by decide)
  have a83 : ad76 2002 = ad54 2002 := up_n ea78 (by decide)
  have a84 : ad76 2003 = ad54 2003 := up_n ea78 (by decide)
  have a85 : ad76 2004 = ad54 2004 := up_n ea78 (by decide)
  rw [← a81] at hl
  have f86 := (up_n e79 (by decide)).trans f71
  have f87 := (up_n e79 (by decide)).trans f72
  have f88 := (up_n e79 (by decide)).trans f73
  have f89 := (up_n e79 (by decide)).trans f74
  have f90 := (up_n e79 (by decide)).trans f75
  rw [← a82, ← a83, ← a84, ← a85] at f90
  refine W.eq (g2 := F0 m 48 ls [.ref (ad76 2005), .ref (ad76 2000)]) (by rw [a81]) ?_
  have g91 := up_s e79
  refine kk_putF hx hb hts hown hE hW f90 rfl hiRX6 tyX6 tyX6_ok nmX6 8 (by decide) (hts (.fieldLink RX6 26 "UndoCellarModel" "by" "[I") (by decide +kernel)) (fun _ h9 => h9) rfl hin rfl (ty := tyX6 8) (tyX6_ok 8 (by decide)) rfl rfl (Nat.le_of_ble_eq_true rfl) dX6_init_48 (fun H94 locs w92 e93 hW => ?_)
  have f95 := (up_n e93 (by decide)).trans f86
  have f96 := (up_n e93 (by decide)).trans f87
  have f97 := (up_n e93 (by decide)).trans f88
  have f98 := (up_n e93 (by decide)).trans f89
  have f99 := (up_n e93 (by decide)).trans g91
  have f100 := up_s e93
  refine lv_aload_n hx hb dX6_init_51 rfl (lv_at hl 0 rfl) ?_
  refine lv_sipush (v := 2000) hx hb dX6_init_52 (by decide) ?_
  refine kk_newa (atype := .int) (ty := .int) hx hb (hts (.arrayClass .int) (by decide +kernel)) rfl hE hW 2006 0 rfl (fun h => va_nm_int h) (N' := 2000) (a0 := (2000, .inl (fun _ => 0))) (fun _ => rfl) (by decide) (by decide) (by decide) (Nat.le_of_ble_eq_true rfl) (Nat.le_of_ble_eq_true rfl) dX6_init_55 (fun H105 ad101 w102 ea103 e104 hW => ?_)
  have a106 : ad101 2000 = ad76 2000 := up_n ea103 (by decide)
  have a107 : ad101 2001 = ad76 2001 := up_n ea103 (by decide)
  have a108 : ad101 2002 = ad76 2002 := up_n ea103 (by decide)
  have a109 : ad101 2003 = ad76 2003 := up_n ea103 (by decide)
  have a110 : ad101 2004 = ad76 2004 := up_n ea103 (by decide)
  have a111 : ad101 2005 = ad76 2005 := up_n ea103 (by decide)
  rw [← a106] at hl
  have f112 := (up_n e104 (by decide)).trans f95
  have f113 := (up_n e104 (by decide)).trans f96
  have f114 := (up_n e104 (by decide)).trans f97
  have f115 := (up_n e104 (by decide)).trans f98
  have f116 := (up_n e104 (by decide)).trans f99
  have f117 := (up_n e104 (by decide)).trans f100
  rw [← a107, ← a108, ← a109, ← a110, ← a111] at f117
  refine W.eq (g2 := F0 m 57 ls [.ref (ad101 2006), .ref (ad101 2000)]) (by rw [a106]) ?_
  have g118 := up_s e104
  refine kk_putF hx hb hts hown hE hW f117 rfl hiRX6 tyX6 tyX6_ok nmX6 9 (by decide) (hts (.fieldLink RX6 29 "UndoCellarModel" "row" "[I") (by decide +kernel)) (fun _ h9 => h9) rfl hin rfl (ty := tyX6 9) (tyX6_ok 9 (by decide)) rfl rfl (Nat.le_of_ble_eq_true rfl) dX6_init_57 (fun H121 locs w119 e120 hW => ?_)
  have f122 := (up_n e120 (by decide)).trans f112
  have f123 := (up_n e120 (by decide)).trans f113
  have f124 := (up_n e120 (by decide)).trans f114
  have f125 := (up_n e120 (by decide)).trans f115
  have f126 := (up_n e120 (by decide)).trans f116
  have f127 := (up_n e120 (by decide)).trans g118
  have f128 := up_s e120
  refine lv_aload_n hx hb dX6_init_60 rfl (lv_at hl 0 rfl) ?_
  refine lv_sipush (v := 2000) hx hb dX6_init_61 (by decide) ?_
  refine kk_newa (atype := .int) (ty := .int) hx hb (hts (.arrayClass .int) (by decide +kernel)) rfl hE hW 2007 0 rfl (fun h => va_nm_int h) (N' := 2000) (a0 := (2000, .inl (fun _ => 0))) (fun _ => rfl) (by decide) (by decide) (by decide) (Nat.le_of_ble_eq_true rfl) (Nat.le_of_ble_eq_true rfl) dX6_init_64 (fun H133 ad129 w130 ea131 e132 hW => ?_)
  have a134 : ad129 2000 = ad101 2000 := up_n ea131 (by decide)
  have a135 : ad129 2001 = ad101 2001 := up_n ea131 (by decide)
  have a136 : ad129 2002 = ad101 2002 := up_n ea131 (by decide)
  have a137 : ad129 2003 = ad101 2003 := up_n ea131 (by decide)
  have a138 : ad129 2004 = ad101 2004 := up_n ea131 (by decide)
  have a139 : ad129 2005 = ad101 2005 := up_n ea131 (by decide)
  have a140 : ad129 2006 = ad101 2006 := up_n ea131 (by decide)
  rw [← a134] at hl
  have f141 := (up_n e132 (by decide)).trans f122
  have f142 := (up_n e132 (by decide)).trans f123
  have f143 := (up_n e132 (by decide)).trans f124
  have f144 := (up_n e132 (by decide)).trans f125
  have f145 := (up_n e132 (by decide)).trans f126
  have f146 := (up_n e132 (by decide)).trans f127
  have f147 := (up_n e132 (by decide)).trans f128
  rw [← a135, ← a136, ← a137, ← a138, ← a139, ← a140] at f147
  refine W.eq (g2 := F0 m 66 ls [.ref (ad129 2007), .ref (ad129 2000)]) (by rw [a134]) ?_
  have g148 := up_s e132
  refine kk_putF hx hb hts hown hE hW f147 rfl hiRX6 tyX6 tyX6_ok nmX6 10 (by decide) (hts (.fieldLink RX6 32 "UndoCellarModel" "ahead" "[I") (by decide +kernel)) (fun _ h9 => h9) rfl hin rfl (ty := tyX6 10) (tyX6_ok 10 (by decide)) rfl rfl (Nat.le_of_ble_eq_true rfl) dX6_init_66 (fun H151 locs w149 e150 hW => ?_)
  have f152 := (up_n e150 (by decide)).trans f141
  have f153 := (up_n e150 (by decide)).trans f142
  have f154 := (up_n e150 (by decide)).trans f143
  have f155 := (up_n e150 (by decide)).trans f144
  have f156 := (up_n e150 (by decide)).trans f145
  have f157 := (up_n e150 (by decide)).trans f146
  have f158 := (up_n e150 (by decide)).trans g148
  have f159 := up_s e150
  refine lv_aload_n hx hb dX6_init_69 rfl (lv_at hl 0 rfl) ?_
  refine lv_sipush (v := 2000) hx hb dX6_init_70 (by decide) ?_
  refine kk_newa (atype := .boolean) (ty := .boolean) hx hb (hts (.arrayClass .boolean) (by decide +kernel)) rfl hE hW 2008 1 rfl (fun h => va_nm_boolean h) (N' := 2000) (a0 := (2000, .inl (fun _ => 0))) (fun _ => rfl) (by decide) (by decide) (by decide) (Nat.le_of_ble_eq_true rfl) (Nat.le_of_ble_eq_true rfl) dX6_init_73 (fun H164 ad160 w161 ea162 e163 hW => ?_)
  have a165 : ad160 2000 = ad129 2000 := up_n ea162 (by decide)
  have a166 : ad160 2001 = ad129 2001 := up_n ea162 (by decide)
  have a167 : ad160 2002 = ad129 2002 := up_n ea162 (by decide)
  have a168 : ad160 2003 = ad129 2003 := up_n ea162 (by decide)
  have a169 : ad160 2004 = ad129 2004 := up_n ea162 (by decide)
  have a170 : ad160 2005 = ad129 2005 := up_n ea162 (by decide)
  have a171 : ad160 2006 = ad129 2006 := up_n ea162 (by decide)
  have a172 : ad160 2007 = ad129 2007 := up_n ea162 (by decide)
  rw [← a165] at hl
  have f173 := (up_n e163 (by decide)).trans f152
  have f174 := (up_n e163 (by decide)).trans f153
  have f175 := (up_n e163 (by decide)).trans f154
  have f176 := (up_n e163 (by decide)).trans f155
  have f177 := (up_n e163 (by decide)).trans f156
  have f178 := (up_n e163 (by decide)).trans f157
  have f179 := (up_n e163 (by decide)).trans f158
  have f180 := (up_n e163 (by decide)).trans f159
  rw [← a166, ← a167, ← a168, ← a169, ← a170, ← a171, ← a172] at f180
  refine W.eq (g2 := F0 m 75 ls [.ref (ad160 2008), .ref (ad160 2000)]) (by rw [a165]) ?_
  have g181 := up_s e163
  refine kk_putF hx hb hts hown hE hW f180 rfl hiRX6 tyX6 tyX6_ok nmX6 11 (by decide) (hts (.fieldLink RX6 35 "UndoCellarModel" "isVoid" "[Z") (by decide +kernel)) (fun _ h9 => h9) rfl hin rfl (ty := tyX6 11) (tyX6_ok 11 (by decide)) rfl rfl (Nat.le_of_ble_eq_true rfl) dX6_init_75 (fun H184 locs w182 e183 hW => ?_)
  have f185 := (up_n e183 (by decide)).trans f173
  have f186 := (up_n e183 (by decide)).trans f174
  have f187 := (up_n e183 (by decide)).trans f175
  have f188 := (up_n e183 (by decide)).trans f176
  have f189 := (up_n e183 (by decide)).trans f177
  have f190 := (up_n e183 (by decide)).trans f178
  have f191 := (up_n e183 (by decide)).trans f179
  have f192 := (up_n e183 (by decide)).trans g181
  have f193 := up_s e183
  refine lv_aload_n hx hb dX6_init_78 rfl (lv_at hl 0 rfl) ?_
  refine lv_bipush (v := 6) hx hb dX6_init_79 (by decide) ?_
  refine kk_newa (atype := .int) (ty := .int) hx hb (hts (.arrayClass .int) (by decide +kernel)) rfl hE hW 2009 0 rfl (fun h => va_nm_int h) (N' := 6) (a0 := (6, .inl (fun _ => 0))) (fun _ => rfl) (by decide) (by decide) (by decide) (Nat.le_of_ble_eq_true rfl) (Nat.le_of_ble_eq_true rfl) dX6_init_81 (fun H198 ad194 w195 ea196 e197 hW => ?_)
  have a199 : ad194 2000 = ad160 2000 := up_n ea196 (by decide)
  have a200 : ad194 2001 = ad160 2001 := up_n ea196 (by decide)
  have a201 : ad194 2002 = ad160 2002 := up_n ea196 (by decide)
  have a202 : ad194 2003 = ad160 2003 := up_n ea196 (by decide)
  have a203 : ad194 2004 = ad160 2004 := up_n ea196 (by decide)
  have a204 : ad194 2005 = ad160 2005 := up_n ea196 (by decide)
  have a205 : ad194 2006 = ad160 2006 := up_n ea196 (by decide)
  have a206 : ad194 2007 = ad160 2007 := up_n ea196 (by decide)
  have a207 : ad194 2008 = ad160 2008 := up_n ea196 (by decide)
  rw [← a199] at hl
  have f208 := (up_n e197 (by decide)).trans f185
  have f209 := (up_n e197 (by decide)).trans f186
  have f210 := (up_n e197 (by decide)).trans f187
  have f211 := (up_n e197 (by decide)).trans f188
  have f212 := (up_n e197 (by decide)).trans f189
  have f213 := (up_n e197 (by decide)).trans f190
  have f214 := (up_n e197 (by decide)).trans f191
  have f215 := (up_n e197 (by decide)).trans f192
  have f216 := (up_n e197 (by decide)).trans f193
  rw [← a200, ← a201, ← a202, ← a203, ← a204, ← a205, ← a206, ← a207] at f216
  refine W.eq (g2 := F0 m 83 ls [.ref (ad194 2009), .ref (ad194 2000)]) (by rw [a199]) ?_
  have g217 := up_s e197
  refine kk_putF hx hb hts hown hE hW f216 rfl hiRX6 tyX6 tyX6_ok nmX6 13 (by decide) (hts (.fieldLink RX6 39 "UndoCellarModel" "slot" "[I") (by decide +kernel)) (fun _ h9 => h9) rfl hin rfl (ty := tyX6 13) (tyX6_ok 13 (by decide)) rfl rfl (Nat.le_of_ble_eq_true rfl) dX6_init_83 (fun H220 locs w218 e219 hW => ?_)
  have f221 := (up_n e219 (by decide)).trans f208
  have f222 := (up_n e219 (by decide)).trans f209
  have f223 := (up_n e219 (by decide)).trans f210
  have f224 := (up_n e219 (by decide)).trans f211
  have f225 := (up_n e219 (by decide)).trans f212
  have f226 := (up_n e219 (by decide)).trans f213
  have f227 := (up_n e219 (by decide)).trans f214
  have f228 := (up_n e219 (by decide)).trans f215
  have f229 := (up_n e219 (by decide)).trans g217
  have f230 := up_s e219
  refine lv_aload_n hx hb dX6_init_86 rfl (lv_at hl 0 rfl) ?_
  refine lv_bipush (v := 6) hx hb dX6_init_87 (by decide) ?_
  refine kk_newa (atype := .boolean) (ty := .boolean) hx hb (hts (.arrayClass .boolean) (by decide +kernel)) rfl hE hW 2010 1 rfl (fun h => va_nm_boolean h) (N' := 6) (a0 := (6, .inl (fun _ => 0))) (fun _ => rfl) (by decide) (by decide) (by decide) (Nat.le_of_ble_eq_true rfl) (Nat.le_of_ble_eq_true rfl) dX6_init_89 (fun H235 ad231 w232 ea233 e234 hW => ?_)
  have a236 : ad231 2000 = ad194 2000 := up_n ea233 (by decide)
  have a237 : ad231 2001 = ad194 2001 := up_n ea233 (by decide)
  have a238 : ad231 2002 = ad194 2002 := up_n ea233 (by decide)
  have a239 : ad231 2003 = ad194 2003 := up_n ea233 (by decide)
  have a240 : ad231 2004 = ad194 2004 := up_n ea233 (by decide)
  have a241 : ad231 2005 = ad194 2005 := up_n ea233 (by decide)
  have a242 : ad231 2006 = ad194 2006 := up_n ea233 (by decide)
  have a243 : ad231 2007 = ad194 2007 := up_n ea233 (by decide)
  have a244 : ad231 2008 = ad194 2008 := up_n ea233 (by decide)
  have a245 : ad231 2009 = ad194 2009 := up_n ea233 (by decide)
  rw [← a236] at hl
  have f246 := (up_n e234 (by decide)).trans f221
  have f247 := (up_n e234 (by decide)).trans f222
  have f248 := (up_n e234 (by decide)).trans f223
  have f249 := (up_n e234 (by decide)).trans f224
  have f250 := (up_n e234 (by decide)).trans f225
  have f251 := (up_n e234 (by decide)).trans f226
  have f252 := (up_n e234 (by decide)).trans f227
  have f253 := (up_n e234 (by decide)).trans f228
  have f254 := (up_n e234 (by decide)).trans f229
  have f255 := (up_n e234 (by decide)).trans f230
  rw [← a237, ← a238, ← a239, ← a240, ← a241, ← a242, ← a243, ← a244, ← a245] at f255
  refine W.eq (g2 := F0 m 91 ls [.ref (ad231 2010), .ref (ad231 2000)]) (by rw [a236]) ?_
  have g256 := up_s e234
  refine kk_putF hx hb hts hown hE hW f255 rfl hiRX6 tyX6 tyX6_ok nmX6 14 (by decide) (hts (.fieldLink RX6 42 "UndoCellarModel" "isEnded" "[Z") (by decide +kernel)) (fun _ h9 => h9) rfl hin rfl (ty := tyX6 14) (tyX6_ok 14 (by decide)) rfl rfl (Nat.le_of_ble_eq_true rfl) dX6_init_91 (fun H259 locs w257 e258 hW => ?_)
  have f260 := (up_n e258 (by decide)).trans f246
  have f261 := (up_n e258 (by decide)).trans f247
  have f262 := (up_n e258 (by decide)).trans f248
  have f263 := (up_n e258 (by decide)).trans f249
  have f264 := (up_n e258 (by decide)).trans f250
  have f265 := (up_n e258 (by decide)).trans f251
  have f266 := (up_n e258 (by decide)).trans f252
  have f267 := (up_n e258 (by decide)).trans f253
  have f268 := (up_n e258 (by decide)).trans f254
  have f269 := (up_n e258 (by decide)).trans g256
  have f270 := up_s e258
  refine lv_iconst (v := 0) hx hb dX6_init_94 (by decide) ?_
  refine lv_istore_n (lv' := [(1, .int 0), (0, .ref (ad231 2000))]) hx hb dX6_init_95 rfl hl (by decide) rfl (fun ls hl => ?_)
  have fw : ∀ k, (k < 2000 ∨ 2011 ≤ k) → w257 k = w k := fun k hk => ((up_n e258 (by omega)).trans ((up_n e234 (by omega)).trans ((up_n e219 (by omega)).trans ((up_n e197 (by omega)).trans ((up_n e183 (by omega)).trans ((up_n e163 (by omega)).trans ((up_n e150 (by omega)).trans ((up_n e132 (by omega)).trans ((up_n e120 (by omega)).trans ((up_n e104 (by omega)).trans ((up_n e93 (by omega)).trans ((up_n e79 (by omega)).trans ((up_n e69 (by omega)).trans ((up_n e57 (by omega)).trans ((up_n e48 (by omega)).trans ((up_n e38 (by omega)).trans ((up_n e30 (by omega)).trans ((up_n e22 (by omega)).trans ((up_n e15 (by omega)).trans ((up_n e10 (by omega)).trans ((up_n e4 (by omega)).trans rfl)))))))))))))))))))))
  have fa : ∀ k, (k < 2000 ∨ 2011 ≤ k) → ad231 k = ad k := fun k hk => ((up_n ea233 (by omega)).trans ((up_n ea196 (by omega)).trans ((up_n ea162 (by omega)).trans ((up_n ea131 (by omega)).trans ((up_n ea103 (by omega)).trans ((up_n ea78 (by omega)).trans ((up_n ea56 (by omega)).trans ((up_n ea37 (by omega)).trans ((up_n ea21 (by omega)).trans ((up_n ea3 (by omega)).trans rfl))))))))))
  have fa0 : ad231 2000 = ad 2000 := ((up_n ea233 (by decide)).trans ((up_n ea196 (by decide)).trans ((up_n ea162 (by decide)).trans ((up_n ea131 (by decide)).trans ((up_n ea103 (by decide)).trans ((up_n ea78 (by decide)).trans ((up_n ea56 (by decide)).trans ((up_n ea37 (by decide)).trans ((up_n ea21 (by decide)).trans ((up_n ea3 (by decide)).trans rfl))))))))))
  have F2001 := f260
  have F2002 := f261
  have F2003 := f262
  have F2004 := f263
  have F2005 := f264
  have F2006 := f265
  have F2007 := f266
  have F2008 := f267
  have F2009 := f268
  have F2010 := f269
  have F2000 := f270
  rw [← fS0_0] at F2009
  have loop : ∀ (d i : Nat) (w1 : kWd) (H : Heap) (locs : List Loc), i + d = 6 → w1 2009 = some (.inl (D.1 100, 6, .inl (fS0 i))) → (∀ k, k ≠ 2009 → w1 k = w257 k) → kS D A s.heap ad231 w1 H locs → ∀ ls, lv_has ls 2 [(1, .int (nI i)), (0, .ref (ad231 2000))] → W p l e ({ frames := 1, cells := 10, slots := 8300, locals := 100 }) s m ([.ref (ad 2000)] : List Value).toArray below meth c H locs (0 + 1 + 1 + 1 + 1 + 1 + 1 + 1 + 1 + 1 + 1) (0 + 12 + 60 + 60 + 60 + 2000 + 2000 + 2000 + 2000 + 6 + 6) (MQ below (kQv D A (fun ad' w' => MW D St0 ad' w w' ∧ (∀ k, (k < 2000 ∨ 2011 ≤ k) → ad' k = ad k) ∧ ad' 2000 = ad 2000)) ([.ref (ad 2000)] : List Value).toArray s 10 8300 A) (F0 m 96 ls []) := by
    intro d
    induction d with
    | zero =>
      intro i w1 H locs hi h9 hf hW ls hl
      obtain rfl : i = 6 := by omega
      refine lv_iload_n hx hb dX6_init_96 rfl (lv_at hl 0 rfl) ?_
      refine lv_bipush (v := 6) hx hb dX6_init_97 (by decide) ?_
      refine lv_icmp_ge (tgt := 115) hx hb dX6_init_99 (by decide) (fun _ => ?_) (fun c9 => absurd (by decide) c9)
      exact ke_v hx hb hr hlocks (Nat.le_of_ble_eq_true rfl) (Nat.le_of_ble_eq_true rfl) dX6_init_115 hW (⟨⟨(hf 2000 (by decide)).trans F2000, (hf 2001 (by decide)).trans F2001, (hf 2002 (by decide)).trans F2002, (hf 2003 (by decide)).trans F2003, (hf 2004 (by decide)).trans F2004, (hf 2005 (by decide)).trans F2005, (hf 2006 (by decide)).trans F2006, (hf 2007 (by decide)).trans F2007, (hf 2008 (by decide)).trans F2008, h9, (hf 2010 (by decide)).trans F2010, fun k hk => (hf k (by omega)).trans (fw k hk)⟩, fa, fa0⟩)
    | succ d ih =>
      intro i w1 H locs hi h9 hf hW ls hl
      refine lv_iload_n hx hb dX6_init_96 rfl (lv_at hl 0 rfl) ?_
      refine lv_bipush (v := 6) hx hb dX6_init_97 (by decide) ?_
      refine lv_icmp_ge (tgt := 115) hx hb dX6_init_99 (by decide) (fun c9 => absurd c9 (fun c9 => nI_ge (show i < 6 by omega) (by omega) c9)) (fun _ => ?_)
      refine lv_aload_n hx hb dX6_init_102 rfl (lv_at hl 1 rfl) ?_
      refine kk_get hx hb hts hown hE hW ((hf 2000 (by decide)).trans F2000) rfl hiRX6 13 (by decide) (hts (.fieldLink RX6 39 "UndoCellarModel" "slot" "[I") (by decide +kernel)) (fun _ h9 => h9) rfl dX6_init_103 ?_
      refine lv_iload_n hx hb dX6_init_106 rfl (lv_at hl 0 rfl) ?_
      refine lv_iconst (v := (-1)) hx hb dX6_init_107 (by decide) ?_
      refine kk_iast hx hb hE hW h9 (vp_in_nI (show i < 6 by omega) (by omega)) dX6_init_108 (fun H273 locs w271 e272 hW => ?_)
      rw [nI_clamp (show i < 2 ^ 31 by omega)] at e272
      have f274 := (up_n e272 (by decide)).trans ((hf 2000 (by decide)).trans F2000)
      have f275 := up_s e272
      refine lv_iinc (v := nI (i + 1)) (lv' := [(1, .int (nI (i + 1))), (0, .ref (ad231 2000))]) hx hb dX6_init_109 hl (k := 0) rfl (nI_1 i) (by decide) rfl (fun ls hl => ?_)
      refine lv_goto (tgt := 96) hx hb dX6_init_112 (by decide) ?_
      exact ih (i + 1) w271 _ _ (by omega) (by rw [up_s e272, fS0_s]) (fun k hk => (up_n e272 hk).trans (hf k hk)) hW ls (lv_sub hl [0, 1] rfl)
  exact loop 6 0 w257 _ _ rfl F2009 (fun _ _ => rfl) hW ls (lv_sub hl [0, 1] rfl)

