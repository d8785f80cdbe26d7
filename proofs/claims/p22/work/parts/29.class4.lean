/-! constructors that make more -/
theorem W_cs {p : Program} {l : Launch} {e : Env} {R : Room} {s : State} {m : MethodId} {args : Array Value} {below : List Frame} {meth : Method} {c : Code} {H : Heap} {locs : List Loc} {c1 s1 c2 s2 : Nat} {Q : State → Prop} {g : JFrame} (h1 : c1 = c2) (h2 : s1 = s2) (k : W p l e R s m args below meth c H locs c2 s2 Q g) : W p l e R s m args below meth c H locs c1 s1 Q g := by
  subst h1
  subst h2
  exact k
set_option maxHeartbeats 4000000 in
set_option maxRecDepth 100000 in
/-- k_X0_init -/
theorem k_X0_init (l : Launch) (D : va_G) (A : Nat → Prop) (ad : Nat → Nat) (w : kWd) (kb ka k0 k1 : Nat) (n1 : kb ≠ ka) (n2 : kb ≠ k0) (n3 : kb ≠ k1) (n4 : ka ≠ k0) (n5 : ka ≠ k1) (n6 : k0 ≠ k1) (g0 : w kb = some (.inr (1, [.null]))) : Met l yX0_init wsX0_init ({ frames := 2, cells := 3, slots := 6, locals := 120 }) (kPc D A [.ref (ad kb)] ad w) (kQv D A (fun ad' w' => w' kb = some (.inr (1, [.ref (ad' ka)])) ∧ (∃ f, w' ka = some (qR (D.1 105) 2 f) ∧ f 0 = some (ad' k0) ∧ f 1 = some (ad' k1)) ∧ w' k0 = some (.inr (4, [.null, .int 0])) ∧ w' k1 = some (.inr (4, [.null, .int 0])) ∧ (∀ k, k ≠ kb → k ≠ ka → k ≠ k0 → k ≠ k1 → w' k = w k) ∧ ∀ k, k ≠ ka → k ≠ k0 → k ≠ k1 → ad' k = ad k)) 3 6 A := by
  refine Met.ofW (cc := cX0_init) (maxL := 2) (ret := none) (by decide) rfl ?_
  intro p e s m args below meth c s₁ B hml hv
  obtain ⟨rfl, hE, hW0, hI0, hA⟩ := hv
  have hx := B.exec
  have hb := B.bytes
  have hr := B.returns
  have hts := atoms_spec (ws := wsX0_init) B.pre
  have hown : s.vm.findClass RX0 = some m.cls := findClass_of_methodNamed B.named
  have hlocks := B.notSynchronized
  have hin : meth.name = "<init>" := (name_of_methodNamed B.named B.method).1
  have hiRX0 : ∀ w ∈ wsX00, w ∈ wsX0_init := by decide +kernel
  have hiRX3 : ∀ w ∈ wsX30, w ∈ wsX0_init := by decide +kernel
  have hW : kS D A s.heap ad w s.heap [] := ⟨hW0, hI0, va_S.rf, hA⟩
  have hl := lv_entry ([.ref (ad kb)]) (n := 2) (Nat.le_of_ble_eq_true rfl)
  rw [lg_entry_eq]
  generalize (lg_sl ([.ref (ad kb)]) ++ List.replicate (2 - (lg_sl ([.ref (ad kb)])).length) Slot.unset).toArray = ls at hl ⊢
  have hl : lv_has ls 2 [(0, .ref (ad kb))] := hl
  refine lv_aload_n hx hb dX0_init_0 rfl (lv_at hl 0 rfl) ?_
  refine W.objInit hx hb hown (hts (.methodLink RX0 3 objectInit) (by decide +kernel)) (hts (.instanceMethod objectInit) (by decide +kernel)) (hts (.code objectInit ⟨#[0xb1]⟩ 1 none) (by decide +kernel)) rfl (by rw [hml]; exact hl.1) rfl dX0_init_1 (Nat.le_of_ble_eq_true rfl) (Nat.le_of_ble_eq_true rfl) ?_
  refine W.eq (g2 := F0 m 4 ls []) rfl ?_
  refine lv_aload_n hx hb dX0_init_4 rfl (lv_at hl 0 rfl) ?_
  refine lv_iconst (v := 2) hx hb dX0_init_5 (by decide) ?_
  refine kk_newq hx hb hown (hts (.classLink RX0 9 "UndoCellar$Slot") (by decide +kernel)) hE.AO.2.2.1 hE hW ka 5 rfl (by decide) (N' := 2) (by decide) (by decide) (Nat.le_of_ble_eq_true rfl) (Nat.le_of_ble_eq_true rfl) dX0_init_6 (fun H5 ad1 w2 ea3 e4 hW => ?_)
  have a6 : ad1 kb = ad kb := up_n ea3 n1
  rw [← a6] at hl
  have f7 := (up_n e4 n1).trans g0
  refine W.eq (g2 := F0 m 9 ls [.ref (ad1 ka), .ref (ad1 kb)]) (by rw [a6]) ?_
  have g8 := up_s e4
  refine kk_putF hx hb hts hown hE hW f7 rfl hiRX0 tyX0 tyX0_ok nmX0 0 (by decide) (hts (.fieldLink RX0 11 "UndoCellar$Block" "slots" "[LUndoCellar$Slot;") (by decide +kernel)) (fun _ h9 => h9) rfl hin rfl (ty := tyX0 0) (tyX0_ok 0 (by decide)) rfl rfl (Nat.le_of_ble_eq_true rfl) dX0_init_9 (fun H11 locs w9 e10 hW => ?_)
  have f12 := (up_n e10 (Ne.symm n1)).trans g8
  have f13 := up_s e10
  refine lv_iconst (v := 0) hx hb dX0_init_12 (by decide) ?_
  refine lv_istore_n (lv' := [(1, .int 0), (0, .ref (ad1 kb))]) hx hb dX0_init_13 rfl hl (by decide) rfl (fun ls hl => ?_)
  refine lv_iload_n hx hb dX0_init_14 rfl (lv_at hl 0 rfl) ?_
  refine lv_aload_n hx hb dX0_init_15 rfl (lv_at hl 1 rfl) ?_
  refine kk_get hx hb hts hown hE hW f13 rfl hiRX0 0 (by decide) (hts (.fieldLink RX0 11 "UndoCellar$Block" "slots" "[LUndoCellar$Slot;") (by decide +kernel)) (fun _ h9 => h9) rfl dX0_init_16 ?_
  refine kk_alen hx hb hE hW 5 f12 rfl (v := 2) rfl dX0_init_19 ?_
  refine lv_icmp_ge (tgt := 42) hx hb dX0_init_20 (by decide) (fun c9 => absurd c9 (by decide)) (fun _ => ?_)
  refine lv_aload_n hx hb dX0_init_23 rfl (lv_at hl 1 rfl) ?_
  refine kk_get hx hb hts hown hE hW f13 rfl hiRX0 0 (by decide) (hts (.fieldLink RX0 11 "UndoCellar$Block" "slots" "[LUndoCellar$Slot;") (by decide +kernel)) (fun _ h9 => h9) rfl dX0_init_24 ?_
  refine lv_iload_n hx hb dX0_init_27 rfl (lv_at hl 0 rfl) ?_
  refine kk_new (ci := 4) hx hb hts hown hE hW k0 rfl hiRX3 tyX3 tyX3_ok (hts (.classLink RX0 9 RX3) (by decide +kernel)) (hts (.instantiable RX3 2) (by decide +kernel)) (hts (.initialized RX3) (by decide +kernel)) (fs := [.null, .int 0]) (by intro j hj; match j, hj with | 0, _ => rfl | 1, _ => rfl) (Nat.le_of_ble_eq_true rfl) (Nat.le_of_ble_eq_true rfl) dX0_init_28 (fun H18 ad14 w15 ea16 e17 hW => ?_)
  have a19 : ad14 kb = ad1 kb := up_n ea16 n2
  have a20 : ad14 ka = ad1 ka := up_n ea16 n4
  rw [← a19] at hl
  have f21 := (up_n e17 n4).trans f12
  have f22 := (up_n e17 n2).trans f13
  rw [← a20] at f22
  refine W.eq (g2 := F0 m 31 ls [.ref (ad14 k0), .int 0, .ref (ad14 ka)]) (by rw [a20]) ?_
  have g23 := up_s e17
  refine lv_dup hx hb dX0_init_31 rfl ?_
  refine kk_v (va_runIN (As := []) (rest := [.ref (ad14 k0), .int 0, .ref (ad14 ka)]) ⟨hx, hb, hml, hown, hts⟩ (k_X3_init l D A ad14 w15 k0 g23) ⟨va_cnB 0 hts gX0_init_X3_init_n17 rfl rfl rfl (hE.N 29 rfl) (hts (.initialized RX3) (by decide +kernel)) (by decide +kernel) ⟨Nat.le_of_ble_eq_true rfl, Nat.le_of_ble_eq_true rfl⟩, rfl, hts (.instanceMethod yX3_init) (by decide +kernel)⟩ (kSt hE hW _) rfl rfl hl.1 rfl (lv_room (Nat.le_of_ble_eq_true rfl)) dX0_init_32 ⟨Nat.le_of_ble_eq_true rfl, Nat.le_of_ble_eq_true rfl⟩) hW (fun ad24 w25 H28 locs hp26 hW => ?_)
  obtain ⟨e29, g30, f31⟩ := hp26
  rw [e29] at hW
  have f32 := (f31 ka n4).trans f21
  have f33 := (f31 kb n2).trans f22
  refine kk_aast hx hb hE hW 5 rfl f32 g30 (r := (RX3, TX3, 2)) rfl (fun comp c0 h1 h2 => by cases h1.symm.trans h2; exact va_asg _ _) (by unfold vp_in; decide) dX0_init_35 (fun H36 locs w34 e35 hW => ?_)
  rw [show (0 : Int32).toNatClampNeg = 0 from rfl] at e35
  have f38 := (up_n e35 n1).trans f33
  have f39 := (up_n e35 (Ne.symm n4)).trans g30
  have f40 := up_s e35
  refine lv_iinc (v := 1) (lv' := [(1, .int (1)), (0, .ref (ad14 kb))]) hx hb dX0_init_36 hl (k := 0) rfl (by decide) (by decide) rfl (fun ls hl => ?_)
  refine lv_goto (tgt := 14) hx hb dX0_init_39 (by decide) ?_
  refine lv_iload_n hx hb dX0_init_14 rfl (lv_at hl 0 rfl) ?_
  refine lv_aload_n hx hb dX0_init_15 rfl (lv_at hl 1 rfl) ?_
  refine kk_get hx hb hts hown hE hW f38 rfl hiRX0 0 (by decide) (hts (.fieldLink RX0 11 "UndoCellar$Block" "slots" "[LUndoCellar$Slot;") (by decide +kernel)) (fun _ h9 => h9) rfl dX0_init_16 ?_
  refine kk_alen hx hb hE hW 5 f40 rfl (v := 2) rfl dX0_init_19 ?_
  refine lv_icmp_ge (tgt := 42) hx hb dX0_init_20 (by decide) (fun c9 => absurd c9 (by decide)) (fun _ => ?_)
  refine lv_aload_n hx hb dX0_init_23 rfl (lv_at hl 1 rfl) ?_
  refine kk_get hx hb hts hown hE hW f38 rfl hiRX0 0 (by decide) (hts (.fieldLink RX0 11 "UndoCellar$Block" "slots" "[LUndoCellar$Slot;") (by decide +kernel)) (fun _ h9 => h9) rfl dX0_init_24 ?_
  refine lv_iload_n hx hb dX0_init_27 rfl (lv_at hl 0 rfl) ?_
  refine kk_new (ci := 4) hx hb hts hown hE hW k1 rfl hiRX3 tyX3 tyX3_ok (hts (.classLink RX0 9 RX3) (by decide +kernel)) (hts (.instantiable RX3 2) (by decide +kernel)) (hts (.initialized RX3) (by decide +kernel)) (fs := [.null, .int 0]) (by intro j hj; match j, hj with | 0, _ => rfl | 1, _ => rfl) (Nat.le_of_ble_eq_true rfl) (Nat.le_of_ble_eq_true rfl) dX0_init_28 (fun H45 ad41 w42 ea43 e44 hW => ?_)
  have a46 : ad41 kb = ad14 kb := up_n ea43 n3
  have a47 : ad41 ka = ad14 ka := up_n ea43 n5
  have a48 : ad41 k0 = ad14 k0 := up_n ea43 n6
  rw [← a46] at hl
  have f49 := (up_n e44 n3).trans f38
  rw [← a47] at f49
  have f50 := (up_n e44 n6).trans f39
  have f51 := (up_n e44 n5).trans f40
  rw [← a48] at f51
  refine W.eq (g2 := F0 m 31 ls [.ref (ad41 k1), .int (1), .ref (ad41 ka)]) (by rw [a47]) ?_
  have g52 := up_s e44
  refine lv_dup hx hb dX0_init_31 rfl ?_
  refine kk_v (va_runIN (As := []) (rest := [.ref (ad41 k1), .int (1), .ref (ad41 ka)]) ⟨hx, hb, hml, hown, hts⟩ (k_X3_init l D A ad41 w42 k1 g52) ⟨va_cnB 0 hts gX0_init_X3_init_n17 rfl rfl rfl (hE.N 29 rfl) (hts (.initialized RX3) (by decide +kernel)) (by decide +kernel) ⟨Nat.le_of_ble_eq_true rfl, Nat.le_of_ble_eq_true rfl⟩, rfl, hts (.instanceMethod yX3_init) (by decide +kernel)⟩ (kSt hE hW _) rfl rfl hl.1 rfl (lv_room (Nat.le_of_ble_eq_true rfl)) dX0_init_32 ⟨Nat.le_of_ble_eq_true rfl, Nat.le_of_ble_eq_true rfl⟩) hW (fun ad53 w54 H57 locs hp55 hW => ?_)
  obtain ⟨e58, g59, f60⟩ := hp55
  rw [e58] at hW
  have f61 := (f60 kb n3).trans f49
  have f62 := (f60 k0 n6).trans f50
  have f63 := (f60 ka n5).trans f51
  refine kk_aast hx hb hE hW 5 rfl f63 g59 (r := (RX3, TX3, 2)) rfl (fun comp c0 h1 h2 => by cases h1.symm.trans h2; exact va_asg _ _) (by unfold vp_in; decide) dX0_init_35 (fun H66 locs w64 e65 hW => ?_)
  rw [show (1 : Int32).toNatClampNeg = 1 from rfl] at e65
  have f67 := (up_n e65 n1).trans f61
  have f68 := (up_n e65 (Ne.symm n4)).trans f62
  have f70 := (up_n e65 (Ne.symm n5)).trans g59
  have f71 := up_s e65
  refine lv_iinc (v := 2) (lv' := [(1, .int (2)), (0, .ref (ad41 kb))]) hx hb dX0_init_36 hl (k := 0) rfl (by decide) (by decide) rfl (fun ls hl => ?_)
  refine lv_goto (tgt := 14) hx hb dX0_init_39 (by decide) ?_
  refine lv_iload_n hx hb dX0_init_14 rfl (lv_at hl 0 rfl) ?_
  refine lv_aload_n hx hb dX0_init_15 rfl (lv_at hl 1 rfl) ?_
  refine kk_get hx hb hts hown hE hW f67 rfl hiRX0 0 (by decide) (hts (.fieldLink RX0 11 "UndoCellar$Block" "slots" "[LUndoCellar$Slot;") (by decide +kernel)) (fun _ h9 => h9) rfl dX0_init_16 ?_
  refine kk_alen hx hb hE hW 5 f71 rfl (v := 2) rfl dX0_init_19 ?_
  refine lv_icmp_ge (tgt := 42) hx hb dX0_init_20 (by decide) (fun _ => ?_) (fun c9 => absurd (by decide) c9)
  exact ke_v hx hb hr hlocks (Nat.le_of_ble_eq_true rfl) (Nat.le_of_ble_eq_true rfl) dX0_init_42 hW (⟨f67, ⟨(va_up (va_up (fun _ => none) 0 (some (ad41 k0))) 1 (some (ad41 k1))), f71, by rw [va_up_ne _ _ (by decide), va_up_self], va_up_self _ _ _⟩, f68, f70, fun k hb9 ha h0 h1 => ((up_n e65 ha).trans ((f60 k h1).trans ((up_n e44 h1).trans ((up_n e35 ha).trans ((f31 k h0).trans ((up_n e17 h0).trans ((up_n e10 hb9).trans ((up_n e4 ha).trans rfl)))))))), fun k ha h0 h1 => ((up_n ea43 h1).trans ((up_n ea16 h0).trans ((up_n ea3 ha).trans rfl)))⟩)

