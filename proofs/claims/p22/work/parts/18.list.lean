/-! ArrayList: rows of its own -/
theorem kS.ren {D : va_G} {A : Nat → Prop} {H0 : Heap} {ad : Nat → Nat} {w : kWd} {H : Heap} {locs : List Loc} (ka kn : Nat) (hne : ka ≠ kn) (h : kS D A H0 ad w H locs) : kS D A H0 (va_up ad ka (ad kn)) (va_up (va_up w ka (w kn)) kn none) H locs := by
  have key : ∀ (i : Nat) (x : va_E), va_up (va_up w ka (w kn)) kn none i = some x → ∃ j, w j = some x ∧ va_up ad ka (ad kn) i = ad j ∧ ((i = ka ∧ j = kn) ∨ (i ≠ ka ∧ i ≠ kn ∧ j = i)) := by
    intro i x hi
    by_cases c : i = kn
    · subst c
      rw [va_up_self] at hi
      cases hi
    · rw [va_up_ne _ _ c] at hi
      by_cases d : i = ka
      · subst d
        rw [va_up_self] at hi
        exact ⟨kn, hi, va_up_self _ _ _, Or.inl ⟨rfl, rfl⟩⟩
      · rw [va_up_ne _ _ d] at hi
        exact ⟨i, hi, va_up_ne _ _ d, Or.inr ⟨d, c, rfl⟩⟩
  refine ⟨fun i x hi => ?_, ⟨fun i j x y hi hj hij => ?_, fun i x hi => ?_⟩, h.2.2⟩
  · obtain ⟨j, h1, h2, -⟩ := key i x hi
    rw [h2]
    exact h.1 j x h1
  · obtain ⟨i', h1, h2, h3⟩ := key i x hi
    obtain ⟨j', g1, g2, g3⟩ := key j y hj
    rw [h2, g2] at hij
    have e := h.2.1.1 i' j' x y h1 g1 hij
    rcases h3 with ⟨a1, a2⟩ | ⟨a1, a2, a3⟩ <;> rcases g3 with ⟨b1, b2⟩ | ⟨b1, b2, b3⟩ <;> omega
  · obtain ⟨j, h1, h2, -⟩ := key i x hi
    rw [h2]
    exact h.2.1.2 j x h1
theorem kAsg {D : va_G} {A : Nat → Prop} {s : State} (hE : kE D A s) {ck : Nat} (hck : ck = 2 ∨ ck = 5) {r : vw_C} (hr : vwCl[ck]? = some r) : ∀ comp c0 : ClassId, s.vm.findClass "java/lang/Object" = some comp → s.vm.findClass r.1 = some c0 → s.vm.assignable c0 comp = true := by
  intro comp c0 h1 h2
  have key : ∀ C, va_Nw (.castable C "java/lang/Object") s → s.vm.findClass C = some c0 → s.vm.assignable c0 comp = true := by
    intro C hC hc
    obtain ⟨c1, t1, f1, f2, f3⟩ := Cond.castable_spec (va_Nw.use (A := #[]) rfl hC)
    cases f1.symm.trans hc
    cases f2.symm.trans h1
    exact f3
  rcases hck with rfl | rfl
  · cases hr
    exact key _ (hE.N 37 rfl) h2
  · cases hr
    exact key _ (hE.N 36 rfl) h2
section KL
variable {p : Program} {l : Launch} {e : Env} {R : Room} {s : State} {m : MethodId} {args : Array Value} {below : List Frame} {meth : Method} {c : Code} {H : Heap} {locs : List Loc} {cells slots : Nat} {Q : State → Prop}
variable {cc : ByteArray} {pc : Nat} {ls : Array Slot} {rest : List Value} {D : va_G} {A : Nat → Prop} {ad : Nat → Nat} {w : kWd}
theorem kk_copy (hexec : p.tables.exec = Jvm.exec) (hb : c.code = cc) (hml : c.maxLocals = ls.size) {own : String} {index : Nat} (hown : s.vm.findClass own = some m.cls) (hlink : (Cond.methodLink own index arraycopyName).before args s = true) (hnat : (Cond.native arraycopyName).before args s = true) (hstat : (Cond.static arraycopyName).before args s = true) (hini : (Cond.initialized "java/lang/System").before args s = true)
    (hE : kE D A s) (hW : kS D A s.heap ad w H locs) {k0 k1 n0 n1 : Nat} {f g : Nat → Option Nat} (ha0 : w k0 = some (.inl (D.1 106, n0, .inr (.inr (.inr (.inr f)))))) (ha1 : w k1 = some (.inl (D.1 106, n1, .inr (.inr (.inr (.inr g))))))
    {sp dp n : Int32} (h1 : ¬ sp < 0) (h2 : ¬ dp < 0) (h3 : ¬ n < 0) (h4 : sp.toNatClampNeg + n.toNatClampNeg ≤ n0) (h5 : dp.toNatClampNeg + n.toNatClampNeg ≤ n1) (hel : ∀ i : Nat, i < n.toNatClampNeg → ∀ y : Nat, f (sp.toNatClampNeg + i) = some y → va_Any "java/lang/Object" s H y)
    (hframes : 1 ≤ R.frames) (hlocals : (rest.map fun v => v.category).sum + (nativeFrameWords "java/lang/System" "arraycopy" 5 + 11) ≤ R.locals) (hdg : decode cc pc = .ok (.invokestatic index, 3))
    (kk : ∀ (H1 : Heap) (locs1 : List Loc) (w1 : kWd), w1 = va_up w k1 (some (.inl (D.1 106, n1, .inr (.inr (.inr (.inr (va_cpy f g sp.toNatClampNeg dp.toNatClampNeg n.toNatClampNeg))))))) → kS D A s.heap ad w1 H1 locs1 → W p l e R s m args below meth c H1 locs1 cells slots Q (F0 m (pc + 3) ls rest)) : W p l e R s m args below meth c H locs cells slots Q (F0 m pc ls (.int n :: .int dp :: .ref (ad k1) :: .int sp :: .ref (ad k0) :: rest)) := by
  have hK := hE.K
  have nn : ∀ z : Int32, ¬ z < 0 → z.toInt = (z.toNatClampNeg : Int) := by
    intro z hz
    have hz0 : (0 : Int) ≤ z.toInt := by
      have := Int32.not_lt.mp hz
      simpa using Int32.le_iff_toInt_le.mp this
    show z.toInt = ((z.toInt.toNat : Nat) : Int)
    omega
  intro T hT X
  have hc0 : H[ad k0]? = some (vp_cell (D.1 106) (n0, .inr (.inr (.inr (.inr f))))) := hW.1 k0 _ ha0
  have hc1 : H[ad k1]? = some (vp_cell (D.1 106) (n1, .inr (.inr (.inr (.inr g))))) := hW.1 k1 _ ha1
  obtain ⟨-, k9, hk0, cm0, hkk0⟩ := (hK.2 6 _ rfl).1 n0 (fun j => va_rf (f j))
  obtain ⟨-, k8, hk1, cm1, hkk1⟩ := (hK.2 6 _ rfl).1 n1 (fun j => va_rf (g j))
  obtain ⟨vm', X', step⟩ := X.arraycopy hexec hown hlink hnat hstat hini (src := ad k0) (dst := ad k1) (cs := vp_cell (D.1 106) (n0, .inr (.inr (.inr (.inr f))))) (cd := vp_cell (D.1 106) (n1, .inr (.inr (.inr (.inr g))))) (srcPos := sp) (destPos := dp) (n := n) (by rw [hT]; exact hc0) (by rw [hT]; exact hc1)
    (fun _ h => by cases h) (fun _ h => by cases h) (fun h => by cases h) (fun h => by cases h) hk0 hk1 hkk0 hkk1 rfl h1 h2 h3
    (by rw [nn sp h1, nn n h3]; show ¬ _ > ((arrV (D.1 106) n0 (fun j => va_rf (f j))).slots.size : Int); rw [arrV_size]; omega)
    (by rw [nn dp h2, nn n h3]; show ¬ _ > ((arrV (D.1 106) n1 (fun j => va_rf (g j))).slots.size : Int); rw [arrV_size]; omega)
    (fun vm₁ hal i hi => by
      have e : (vp_cell (D.1 106) (n0, .inr (.inr (.inr (.inr f))))).slots.getD (sp.toNatClampNeg + i) .null = va_rf (f (sp.toNatClampNeg + i)) := by
        show (arrV (D.1 106) n0 (fun j => va_rf (f j))).slots.getD _ _ = _
        rw [Array.getD_eq_getD_getElem?, arrV_read _ _ (by omega)]
        rfl
      rw [e]
      cases hy : f (sp.toNatClampNeg + i) with
      | none => exact ⟨rfl, trivial⟩
      | some y =>
        obtain ⟨cellV, g1, g2, ⟨kC, hkC⟩, hasg⟩ := hel i hi y hy
        obtain ⟨kA, comp, r1, r2, r3, -⟩ := (hK.2 6 _ rfl).2
        cases hk1.symm.trans r1
        cases hkk1.symm.trans r2
        obtain ⟨kE, hkE, -⟩ := Vm.findClass_spec r3
        obtain ⟨kC', hkC', -⟩ := hal.2.2 _ _ hkC
        obtain ⟨kE', hkE', -⟩ := hal.2.2 _ _ hkE
        refine ⟨rfl, cellV, (show T.heap[y]? = some cellV by rw [hT]; exact g1), (fun q h => by rw [h] at g2; cases g2), ⟨kC', hkC'⟩, ?_, ?_⟩
        · exact ⟨kE', hkE'⟩
        · show vm₁.assignable _ _ = true
          rw [hal.assignable]
          exact hasg _ r3)
    (g := F0 m pc ls (.int n :: .int dp :: .ref (ad k1) :: .int sp :: .ref (ad k0) :: rest)) rfl (by rw [hml]) (rest := rest) rfl (by rw [hb]; exact hdg) hframes (by show 2 * 0 + _ + _ ≤ _; omega)
  have e1 : copied (vp_cell (D.1 106) (n0, .inr (.inr (.inr (.inr f))))) (vp_cell (D.1 106) (n1, .inr (.inr (.inr (.inr g))))) sp dp n = vp_cell (D.1 106) (n1, .inr (.inr (.inr (.inr (va_cpy f g sp.toNatClampNeg dp.toNatClampNeg n.toNatClampNeg))))) := by
    rw [vp_cell_q, vp_cell_q, vp_cell_q]
    exact va_copied (fun z => va_rf z) (D.1 106) (D.1 106) f g h4
  rw [e1] at X' step
  have hl : ad k1 < H.size := (Array.getElem?_eq_some_iff.mp hc1).1
  have hheap : ((T.setVm vm').setCell (ad k1) (vp_cell (D.1 106) (n1, .inr (.inr (.inr (.inr (va_cpy f g sp.toNatClampNeg dp.toNatClampNeg n.toNatClampNeg))))))).heap = H.setIfInBounds (ad k1) (vp_cell (D.1 106) (n1, .inr (.inr (.inr (.inr (va_cpy f g sp.toNatClampNeg dp.toNatClampNeg n.toNatClampNeg)))))) := by rw [← hT]; rfl
  have oq : ∀ q : Nat, q ≠ ad k1 → (H.setIfInBounds (ad k1) (vp_cell (D.1 106) (n1, .inr (.inr (.inr (.inr (va_cpy f g sp.toNatClampNeg dp.toNatClampNeg n.toNatClampNeg)))))))[q]? = H[q]? := fun q hq => by simp [Array.getElem?_setIfInBounds, Ne.symm hq]
  obtain ⟨t, a1, b1⟩ := kk _ _ _ rfl ⟨hW.1.set hW.2.1 (e := .inl (D.1 106, n1, .inr (.inr (.inr (.inr (va_cpy f g sp.toNatClampNeg dp.toNatClampNeg n.toNatClampNeg)))))) ha1 (show (H.setIfInBounds (ad k1) _)[ad k1]? = some _ by simp [Array.getElem?_setIfInBounds, hl]) oq, hW.2.1.set ha1, ⟨by simp; exact hW.2.2.1.1, fun q g1 g2 => by
      rw [oq q (fun e => g2 (by rw [e]; exact hW.2.1.2 k1 _ ha1))]
      exact hW.2.2.1.2.1 q g1 g2, fun q hq => by
      rcases List.mem_append.mp hq with h | h
      · exact hW.2.2.1.2.2 q h
      · obtain ⟨z, -, hz⟩ := List.mem_map.mp h
        rw [← hz]
        exact hW.2.1.2 k1 _ ha1⟩, hW.2.2.2⟩ _ hheap X'
  exact ⟨t, step t a1, b1⟩
end KL
