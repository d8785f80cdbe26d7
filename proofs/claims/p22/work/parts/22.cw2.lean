/-! more of the class's world -/
section CW2
variable {D : va_G} {A : Nat → Prop} {H0 H : Heap} {locs : List Loc} {S S' : St} {ad : Nat → Nat} {w w1 : kWd} {nT nC nD nM nZ : Nat}
theorem hold_n {i : Nat} (h : S 8 i = -1) : hold ad S i = none := if_pos h
theorem nI_nm1 {t : Nat} (ht : t < 2 ^ 31) : nI t ≠ -1 := fun q => nI_pos ht (by rw [q]; decide)
theorem hold_s {i t : Nat} (h : S 8 i = nI t) (ht : t < 60) : hold ad S i = some (ad (tkey t)) := by
  unfold hold
  rw [h, if_neg (nI_nm1 (by omega)), nv_nI (by omega)]
theorem CW.sn (h : CW D S ad w nT nC) {i : Nat} (hi : i < 6) (h8 : S 8 i = -1) : w (16 + i) = some (.inr (4, [.null, .int (S 9 i)])) := by
  rw [h.s hi]
  show some (Sum.inr (4, [va_rf (hold ad S i), .int (S 9 i)])) = _
  rw [hold_n h8]
  rfl
theorem CW.ss (h : CW D S ad w nT nC) {i t : Nat} (hi : i < 6) (h8 : S 8 i = nI t) (ht : t < 60) : w (16 + i) = some (.inr (4, [.ref (ad (tkey t)), .int (S 9 i)])) := by
  rw [h.s hi]
  show some (Sum.inr (4, [va_rf (hold ad S i), .int (S 9 i)])) = _
  rw [hold_s h8 ht]
  rfl
theorem CW.cc (h : CW D S ad w nT nC) {k t r : Nat} (hk : k < nC) (h4 : S 4 k = nI t) (ht : t < 60) (h5 : S 5 k = nI r) (hr : r < 12) : w (ckey k) = some (.inr (2, [.ref (ad (tkey t)), .ref (ad (24 + r)), .int (S 6 k), .int (S 7 k)])) := by
  rw [h.c hk]
  show some (cCell ad S k) = _
  unfold cCell
  rw [h4, h5, nv_nI (by omega), nv_nI (by omega)]
theorem kS.inj (h : kS D A H0 ad w H locs) {a b : Nat} {x y : va_E} (ha : w a = some x) (hb : w b = some y) : some (ad a) = some (ad b) ↔ a = b :=
  ⟨fun q => h.2.1.1 a b x y ha hb (Option.some.inj q), fun q => by rw [q]⟩
theorem hold_iff (hW : kS D A H0 ad w H locs) (hC : CW D S ad w nT nC) (hN : SN S nT nC nD nM nZ) {i t : Nat} (hi : i < 6) (ht : t < nT) : hold ad S i = some (ad (tkey t)) ↔ S 8 i = nI t := by
  have h60 := hN.2.2.2.2.2.1
  constructor
  · intro q
    rcases hN.sl hi with h | ⟨u, hu, h⟩
    · rw [hold_n h] at q
      cases q
    · rw [hold_s h (by omega)] at q
      have := (hW.inj (hC.t hu) (hC.t ht)).mp q
      have e : u = t := by show u = t; have : 100 + 2 * u = 100 + 2 * t := this; omega
      rw [h, e]
  · intro q
    exact hold_s q (by omega)
theorem stL_c {t : Int32} (h4 : S' 4 = S 4) (h7 : S' 7 = S 7) : ∀ n : Nat, stL S' t n = stL S t n
  | 0 => rfl
  | n + 1 => by
    show stL S' t n + bI (S' 4 n = t ∧ S' 7 n = 0) = stL S t n + bI (S 4 n = t ∧ S 7 n = 0)
    rw [stL_c h4 h7 n, h4, h7]
def FrC (ad0 : Nat → Nat) (w0 : kWd) (ad : Nat → Nat) (w : kWd) : Prop := ∀ k : Nat, 2000 ≤ k → w k = w0 k ∧ ad k = ad0 k
theorem FrC.rf : FrC ad w ad w := fun _ _ => ⟨rfl, rfl⟩
theorem FrC.up {ad0 : Nat → Nat} {w0 : kWd} {k : Nat} {x : Option va_E} (h : FrC ad0 w0 ad w) (e : w1 = va_up w k x) (hk : k < 2000) : FrC ad0 w0 ad w1 := fun j hj => ⟨(up_n e (by omega)).trans (h j hj).1, (h j hj).2⟩
theorem FrC.tr {ad0 ad1 : Nat → Nat} {w0 : kWd} (h : FrC ad0 w0 ad w) (h1 : FrC ad w ad1 w1) : FrC ad0 w0 ad1 w1 := fun j hj => ⟨(h1 j hj).1.trans (h j hj).1, (h1 j hj).2.trans (h j hj).2⟩
theorem AL.keep {kl ka n : Nat} {key : Nat → Nat} {ad1 : Nat → Nat} (h : AL D kl ka n key ad w) (h1 : w1 kl = w kl) (h2 : w1 ka = w ka) (h3 : ad1 ka = ad ka) (h4 : ∀ i, i < n → ad1 (key i) = ad (key i)) : AL D kl ka n key ad1 w1 := by
  obtain ⟨mc, cap, f, e, g1, g2, g3, g4, g5⟩ := h
  exact ⟨mc, cap, f, e, h1.trans g1, g2, g3, g4.imp id (fun q => ⟨q.1, q.2.1.trans h3.symm, h2.trans q.2.2⟩), fun i hi => by rw [h4 i hi]; exact g5 i hi⟩
/-- a slot's cell has changed, and of the state the components 8 and 9 there -/
theorem CW.upS (h : CW D S ad w nT nC) {i : Nat} (hi : i < 6) (e : w1 = va_up w (16 + i) (some (sCell ad S' i))) (h8 : ∀ j, j ≠ i → S' 8 j = S 8 j) (h9 : ∀ j, j ≠ i → S' 9 j = S 9 j) (hc : ∀ c, c ≠ 8 → c ≠ 9 → S' c = S c) : CW D S' ad w1 nT nC := by
  have n : ∀ k, k ≠ 16 + i → w1 k = w k := fun k hk => up_n e hk
  refine ⟨?_, ?_, ?_, h.lt.keep (n _ (by omega)) (n _ (by omega)) rfl (fun _ _ => rfl), h.lc.keep (n _ (by omega)) (n _ (by omega)) rfl (fun _ _ => rfl), fun b hb => ⟨(n _ (by omega)).trans (h.b hb), ?_⟩, fun j hj => ?_, fun r hr => ?_, fun t ht => ?_, fun k hk => ?_⟩
  · rw [n 0 (by omega), h.u]
    show some (uCell ad S) = some (uCell ad S')
    unfold uCell
    rw [hc 10 (by decide) (by decide), hc 11 (by decide) (by decide), hc 14 (by decide) (by decide), hc 15 (by decide) (by decide)]
  · rw [n 1 (by omega)]; exact h.bs
  · rw [n 2 (by omega)]; exact h.rs
  · rw [n (13 + b) (by omega)]; exact h.sa hb
  · by_cases q : j = i
    · rw [q]; exact up_s e
    · rw [n (16 + j) (by omega), h.s hj]
      show some (sCell ad S j) = some (sCell ad S' j)
      unfold sCell hold
      rw [h8 j q, h9 j q]
  · rw [n (24 + r) (by omega), h.r hr]
    show some (rCell ad S r) = some (rCell ad S' r)
    unfold rCell
    rw [hc 0 (by decide) (by decide)]
  · rw [n (tkey t) (by show 100 + 2 * t ≠ _; omega), h.t ht]
    show some (tCell S nC t) = some (tCell S' nC t)
    unfold tCell
    rw [stL_c (hc 4 (by decide) (by decide)) (hc 7 (by decide) (by decide)), hc 1 (by decide) (by decide), hc 2 (by decide) (by decide), hc 3 (by decide) (by decide)]
  · rw [n (ckey k) (by show 101 + 2 * k ≠ _; omega), h.c hk]
    show some (cCell ad S k) = some (cCell ad S' k)
    unfold cCell
    rw [hc 4 (by decide) (by decide), hc 5 (by decide) (by decide), hc 6 (by decide) (by decide), hc 7 (by decide) (by decide)]
/-- the cellar's own cell has changed, and of the state its numbers -/
theorem CW.upU (h : CW D S ad w nT nC) (e : w1 = va_up w 0 (some (uCell ad S'))) (hc : ∀ c, c < 10 → S' c = S c) : CW D S' ad w1 nT nC := by
  have n : ∀ k, k ≠ 0 → w1 k = w k := fun k hk => up_n e hk
  refine ⟨up_s e, ?_, ?_, h.lt.keep (n _ (by omega)) (n _ (by omega)) rfl (fun _ _ => rfl), h.lc.keep (n _ (by omega)) (n _ (by omega)) rfl (fun _ _ => rfl), fun b hb => ⟨(n _ (by omega)).trans (h.b hb), ?_⟩, fun j hj => ?_, fun r hr => ?_, fun t ht => ?_, fun k hk => ?_⟩
  · rw [n 1 (by omega)]; exact h.bs
  · rw [n 2 (by omega)]; exact h.rs
  · rw [n (13 + b) (by omega)]; exact h.sa hb
  · rw [n (16 + j) (by omega), h.s hj]
    show some (sCell ad S j) = some (sCell ad S' j)
    unfold sCell hold
    rw [hc 8 (by decide), hc 9 (by decide)]
  · rw [n (24 + r) (by omega), h.r hr]
    show some (rCell ad S r) = some (rCell ad S' r)
    unfold rCell
    rw [hc 0 (by decide)]
  · rw [n (tkey t) (by show 100 + 2 * t ≠ _; omega), h.t ht]
    show some (tCell S nC t) = some (tCell S' nC t)
    unfold tCell
    rw [stL_c (hc 4 (by decide)) (hc 7 (by decide)), hc 1 (by decide), hc 2 (by decide), hc 3 (by decide)]
  · rw [n (ckey k) (by show 101 + 2 * k ≠ _; omega), h.c hk]
    show some (cCell ad S k) = some (cCell ad S' k)
    unfold cCell
    rw [hc 4 (by decide), hc 5 (by decide), hc 6 (by decide), hc 7 (by decide)]
theorem CW.cg (h : CW D S ad w nT nC) (hc : ∀ c, c < 16 → S' c = S c) : CW D S' ad w nT nC := by
  refine h.upU (S' := S') (w1 := w) ?_ (fun c q => hc c (by omega))
  funext k
  by_cases q : k = 0
  · subst q
    rw [va_up_self, h.u]
    show some (uCell ad S) = some (uCell ad S')
    unfold uCell
    rw [hc 10 (by decide), hc 11 (by decide), hc 14 (by decide), hc 15 (by decide)]
  · rw [va_up_ne _ _ q]
theorem trP_iff (hN : SN S nT nC nD nM nZ) {i : Int32} : trP S i ↔ ∃ j, j < nT ∧ i = nI j := by
  have h60 := hN.2.2.2.2.2.1
  have h12 := hN.1
  constructor
  · intro q
    refine inP_T h60 ?_
    rw [← h12]
    exact q
  · rintro ⟨j, hj, rfl⟩
    show inP (nI j) 0 (S 12 0 - 1)
    rw [h12, show nT = (nT - 1) + 1 by omega, nI_dn]
    exact inP_of (by omega) (by omega)
theorem roP_iff {r : Int32} : roP r ↔ ∃ j, j < 12 ∧ r = nI j := by
  constructor
  · intro q
    obtain ⟨j, h1, h2⟩ := inP_N (n := 11) (by decide) q
    exact ⟨j, by omega, h2⟩
  · rintro ⟨j, hj, rfl⟩
    exact inP_of (n := 11) (by decide) (by omega)
end CW2
