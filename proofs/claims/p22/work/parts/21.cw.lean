/-! the class's world by the reference's state. Keys: 0 the cellar, 1 blocks, 2 rows, 3, 4 the lists, 5, 6 their arrays, 10.. blocks, 13.. their slots' arrays, 16.. slots, 24.. rows, 100 + 2t transactions, 101 + 2k changes -/
abbrev tkey (t : Nat) : Nat := 100 + 2 * t
abbrev ckey (k : Nat) : Nat := 101 + 2 * k
def hold (ad : Nat → Nat) (S : St) (i : Nat) : Option Nat := if S 8 i = -1 then none else some (ad (tkey (nv (S 8 i))))
abbrev tCell (S : St) (nC t : Nat) : va_E := .inr (5, [.int (nI t), .int (S 2 t), .int (bI (S 1 t = 0)), .int (if S 1 t = 1 then S 3 t else -1), .int (stL S (nI t) nC)])
abbrev cCell (ad : Nat → Nat) (S : St) (k : Nat) : va_E := .inr (2, [.ref (ad (tkey (nv (S 4 k)))), .ref (ad (24 + nv (S 5 k))), .int (S 6 k), .int (S 7 k)])
abbrev sCell (ad : Nat → Nat) (S : St) (i : Nat) : va_E := .inr (4, [va_rf (hold ad S i), .int (S 9 i)])
abbrev rCell (ad : Nat → Nat) (S : St) (r : Nat) : va_E := .inr (3, [.ref (ad (10 + r / 4)), .int (S 0 r)])
abbrev uCell (ad : Nat → Nat) (S : St) : va_E := .inr (6, [.ref (ad 1), .ref (ad 2), .ref (ad 3), .ref (ad 4), .int (S 10 0), .int (S 11 0), .int (S 15 0), .int (S 14 0)])
abbrev qR (c n : Nat) (f : Nat → Option Nat) : va_E := .inl (c, n, .inr (.inr (.inr (.inr f))))
def CW (D : va_G) (S : St) (ad : Nat → Nat) (w : kWd) (nT nC : Nat) : Prop :=
  w 0 = some (uCell ad S) ∧ (∃ f, w 1 = some (qR (D.1 103) 3 f) ∧ ∀ i, i < 3 → f i = some (ad (10 + i))) ∧ (∃ f, w 2 = some (qR (D.1 104) 12 f) ∧ ∀ i, i < 12 → f i = some (ad (24 + i))) ∧
  AL D 3 5 nT tkey ad w ∧ AL D 4 6 nC ckey ad w ∧ (∀ b, b < 3 → w (10 + b) = some (.inr (1, [.ref (ad (13 + b))])) ∧ ∃ f, w (13 + b) = some (qR (D.1 105) 2 f) ∧ ∀ j, j < 2 → f j = some (ad (16 + (2 * b + j)))) ∧
  (∀ i, i < 6 → w (16 + i) = some (sCell ad S i)) ∧ (∀ r, r < 12 → w (24 + r) = some (rCell ad S r)) ∧ (∀ t, t < nT → w (tkey t) = some (tCell S nC t)) ∧ ∀ k, k < nC → w (ckey k) = some (cCell ad S k)
/-- what the state's numbers are -/
def SN (S : St) (nT nC nD nM nZ : Nat) : Prop := S 12 0 = nI nT ∧ S 13 0 = nI nC ∧ S 14 0 = nI nD ∧ S 11 0 = nI nM ∧ S 10 0 = nI nZ ∧ nT ≤ 60 ∧ nC ≤ 512 ∧ nD ≤ nC ∧ nM ≤ 512 ∧ 1 ≤ nZ ∧ nZ ≤ 30 ∧ nC - nD ≤ nZ ∧
  (∀ k, k < nC → (∃ t, t < nT ∧ S 4 k = nI t) ∧ (∃ r, r < 12 ∧ S 5 k = nI r) ∧ (S 7 k = 0 ∨ S 7 k = 1)) ∧ (∀ k, nC ≤ k → S 7 k = 0) ∧
  (∀ i, i < 6 → (S 8 i = -1 ∨ ∃ t, t < nT ∧ S 8 i = nI t) ∧ (S 9 i = 0 ∨ S 9 i = 1)) ∧ (∀ t, t < 60 → S 1 t = 0 ∨ S 1 t = 1 ∨ S 1 t = 2) ∧ (∀ t, nT ≤ t → S 1 t = 0) ∧ (∀ t, t < nT → S 1 t = 1 → ∃ j, 1 ≤ j ∧ j ≤ nM ∧ S 3 t = nI j) ∧ (∀ t, t < nT → ∃ j, j ≤ nM ∧ S 2 t = nI j)
section CWs
variable {D : va_G} {S : St} {ad : Nat → Nat} {w : kWd} {nT nC nD nM nZ : Nat}
theorem CW.u (h : CW D S ad w nT nC) : w 0 = some (uCell ad S) := h.1
theorem CW.bs (h : CW D S ad w nT nC) : ∃ f, w 1 = some (qR (D.1 103) 3 f) ∧ ∀ i, i < 3 → f i = some (ad (10 + i)) := h.2.1
theorem CW.rs (h : CW D S ad w nT nC) : ∃ f, w 2 = some (qR (D.1 104) 12 f) ∧ ∀ i, i < 12 → f i = some (ad (24 + i)) := h.2.2.1
theorem CW.lt (h : CW D S ad w nT nC) : AL D 3 5 nT tkey ad w := h.2.2.2.1
theorem CW.lc (h : CW D S ad w nT nC) : AL D 4 6 nC ckey ad w := h.2.2.2.2.1
theorem CW.b (h : CW D S ad w nT nC) {b : Nat} (hb : b < 3) : w (10 + b) = some (.inr (1, [.ref (ad (13 + b))])) := (h.2.2.2.2.2.1 b hb).1
theorem CW.sa (h : CW D S ad w nT nC) {b : Nat} (hb : b < 3) : ∃ f, w (13 + b) = some (qR (D.1 105) 2 f) ∧ ∀ j, j < 2 → f j = some (ad (16 + (2 * b + j))) := (h.2.2.2.2.2.1 b hb).2
theorem CW.s (h : CW D S ad w nT nC) {i : Nat} (hi : i < 6) : w (16 + i) = some (sCell ad S i) := h.2.2.2.2.2.2.1 i hi
theorem CW.r (h : CW D S ad w nT nC) {r : Nat} (hr : r < 12) : w (24 + r) = some (rCell ad S r) := h.2.2.2.2.2.2.2.1 r hr
theorem CW.t (h : CW D S ad w nT nC) {t : Nat} (ht : t < nT) : w (tkey t) = some (tCell S nC t) := h.2.2.2.2.2.2.2.2.1 t ht
theorem CW.c (h : CW D S ad w nT nC) {k : Nat} (hk : k < nC) : w (ckey k) = some (cCell ad S k) := h.2.2.2.2.2.2.2.2.2 k hk
theorem SN.by (h : SN S nT nC nD nM nZ) {k : Nat} (hk : k < nC) : ∃ t, t < nT ∧ S 4 k = nI t := (h.2.2.2.2.2.2.2.2.2.2.2.2.1 k hk).1
theorem SN.ro (h : SN S nT nC nD nM nZ) {k : Nat} (hk : k < nC) : ∃ r, r < 12 ∧ S 5 k = nI r := (h.2.2.2.2.2.2.2.2.2.2.2.2.1 k hk).2.1
theorem SN.vo (h : SN S nT nC nD nM nZ) {k : Nat} (hk : k < nC) : S 7 k = 0 ∨ S 7 k = 1 := (h.2.2.2.2.2.2.2.2.2.2.2.2.1 k hk).2.2
theorem SN.vn (h : SN S nT nC nD nM nZ) {k : Nat} (hk : nC ≤ k) : S 7 k = 0 := h.2.2.2.2.2.2.2.2.2.2.2.2.2.1 k hk
theorem SN.sl (h : SN S nT nC nD nM nZ) {i : Nat} (hi : i < 6) : S 8 i = -1 ∨ ∃ t, t < nT ∧ S 8 i = nI t := (h.2.2.2.2.2.2.2.2.2.2.2.2.2.2.1 i hi).1
theorem SN.en (h : SN S nT nC nD nM nZ) {i : Nat} (hi : i < 6) : S 9 i = 0 ∨ S 9 i = 1 := (h.2.2.2.2.2.2.2.2.2.2.2.2.2.2.1 i hi).2
theorem SN.st (h : SN S nT nC nD nM nZ) {t : Nat} (ht : t < 60) : S 1 t = 0 ∨ S 1 t = 1 ∨ S 1 t = 2 := h.2.2.2.2.2.2.2.2.2.2.2.2.2.2.2.1 t ht
theorem SN.s0 (h : SN S nT nC nD nM nZ) {t : Nat} (ht : nT ≤ t) : S 1 t = 0 := h.2.2.2.2.2.2.2.2.2.2.2.2.2.2.2.2.1 t ht
theorem SN.ca (h : SN S nT nC nD nM nZ) {t : Nat} (ht : t < nT) (h1 : S 1 t = 1) : ∃ j, 1 ≤ j ∧ j ≤ nM ∧ S 3 t = nI j := h.2.2.2.2.2.2.2.2.2.2.2.2.2.2.2.2.2.1 t ht h1
theorem SN.be (h : SN S nT nC nD nM nZ) {t : Nat} (ht : t < nT) : ∃ j, j ≤ nM ∧ S 2 t = nI j := h.2.2.2.2.2.2.2.2.2.2.2.2.2.2.2.2.2.2 t ht
end CWs
