/-! what the law looks at, one by one -/
section PY
variable {S : St} {nT nC nD nM nZ : Nat}
theorem lk_slot (hN : SN S nT nC nD nM nZ) (hG : GI S nT nC nM) {i t : Nat} (hi : i < 12) (ht : t < 60) (h : lockV S (nI i) = nI t) : S 8 (2 * (i / 4)) = nI t ∨ S 8 (2 * (i / 4) + 1) = nI t := by
  obtain ⟨k, h1, h2, h3, h4, -⟩ := lk_inv hN (r := nI i) (by rw [h]; exact nI_nm1 (by omega))
  rw [h] at h3 h4
  have z := hG.2.2.1 k h1 h2.2 (by rw [h3]; exact h4)
  rw [h2.1, nvR hi, h3] at z
  exact z
theorem sl_ne (hG : GI S nT nC nM) {i t : Nat} (hi : i < 6) (ht : t < 60) (h : S 8 i = nI t) : ¬ nI t = S 8 (2 * (i / 2) + (1 - i % 2)) := by
  intro z
  rcases (show i = 2 * (i / 2) ∨ i = 2 * (i / 2) + 1 by omega) with e | e
  · rw [show 2 * (i / 2) + (1 - i % 2) = 2 * (i / 2) + 1 by omega] at z
    rw [e] at h
    rcases hG.2.2.2.2.1 (i / 2) (by omega) with q | q
    · rw [h] at q
      exact nI_nm1 (by omega) q
    · exact q (h.trans z)
  · rw [show 2 * (i / 2) + (1 - i % 2) = 2 * (i / 2) by omega] at z
    rw [e] at h
    rcases hG.2.2.2.2.1 (i / 2) (by omega) with q | q
    · rw [← z] at q
      exact nI_nm1 (by omega) q
    · exact q (z.symm.trans h.symm)
theorem en_1 (hN : SN S nT nC nD nM nZ) (hG : GI S nT nC nM) {i : Nat} (hi : i < 6) (h : ¬ S 9 i = 0) : S 8 i ≠ -1 ∧ ¬ actP S (S 8 i) := hG.2.2.2.1 i hi ((hN.en hi).resolve_left h)
theorem CF.ge {c : Nat → Int32} (hN : SN S nT nC nD nM nZ) (h : CF S c) : ¬ c 5 < c 2 := by
  obtain ⟨-, -, c2, -, -, c5⟩ := h
  rw [c2, c5, hN.2.1, hN.2.2.1, hN.2.2.2.2.1, pk_sub hN.2.2.2.2.2.2.2.1]
  exact nI_nlt hN.2.2.2.2.2.2.2.2.2.2.2.1 (by have := hN.2.2.2.2.2.2.2.2.2.2.1; omega)
theorem m1_lt {n : Nat} (h : n < 2 ^ 31) : ¬ nI n ≤ -1 := fun q => absurd (Int32.le_trans (nI_pos' h) q) (by decide)
theorem t_m1 {n : Nat} (h : n < 2 ^ 31) : ¬ nI n < -1 := fun q => nI_pos h (Int32.lt_trans q (by decide))
end PY
