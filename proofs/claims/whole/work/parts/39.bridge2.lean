/-! numbers behind the calls that change them -/
section BR2
variable {S : St} {nT nC nD nM nZ : Nat}
theorem ss_z (hN : SN S nT nC nD nM nZ) {z : Int32} (h : ssK S z = 0) : ∃ j, 1 ≤ j ∧ j ≤ 30 ∧ nC - nD ≤ j ∧ z = nI j := by
  have h512 := hN.2.2.2.2.2.2.1
  have hd := hN.2.2.2.2.2.2.2.1
  have h1 : inP z 1 30 := by
    refine Decidable.byContradiction fun q => ?_
    rw [ssK_1 q] at h
    exact absurd h (by decide)
  have h2 : S 13 0 - S 14 0 ≤ z := by
    refine Decidable.byContradiction fun q => ?_
    rw [ssK_2 h1 q] at h
    exact absurd h (by decide)
  obtain ⟨j, hj, rfl⟩ := nI_of (fun q => h1.1 (Int32.lt_of_lt_of_le q (by decide)))
  refine ⟨j, ?_, ?_, ?_, rfl⟩
  · rcases Nat.lt_or_ge j 1 with q | q
    · exact absurd (nI_lt q (by decide)) h1.1
    · exact q
  · rcases Nat.lt_or_ge 30 j with q | q
    · exact absurd (nI_lt q hj) h1.2
    · exact q
  · rw [hN.2.1, hN.2.2.1, pk_sub hd] at h2
    rcases Nat.lt_or_ge j (nC - nD) with q | q
    · exact absurd h2 (nI_ge q (by omega))
    · exact q
theorem SN.unS (hN : SN S nT nC nD nM nZ) {t z : Int32} : SN (unS S t z) nT nC nD nM nZ := by
  have h512 := hN.2.2.2.2.2.2.1
  show SN (unL t (nv (S 13 0)) z S) nT nC nD nM nZ
  rw [show nv (S 13 0) = nC by rw [hN.2.1]; exact nv_nI (by omega)]
  exact SN.unLoop nC z S (Nat.le_refl _) hN
theorem SN.wrM (hN : SN S nT nC nD nM nZ) (hC : nC < 512) {t r v : Int32} (h : wrK S t r v = 0) : ∃ nD', SN (wrM S t r v) nT (nC + 1) nD' nM nZ := by
  have h60 := hN.2.2.2.2.2.1
  have hd := hN.2.2.2.2.2.2.2.1
  have hz1 := hN.2.2.2.2.2.2.2.2.2.1
  have hz30 := hN.2.2.2.2.2.2.2.2.2.2.1
  have hzz := hN.2.2.2.2.2.2.2.2.2.2.2.1
  have hth : trP S t ∧ roP r := by
    refine Decidable.byContradiction fun q => ?_
    rw [wrK_1 q] at h
    exact absurd h (by decide)
  have hg : goodP v := by
    refine Decidable.byContradiction fun q => ?_
    rw [wrK_2 hth q] at h
    exact absurd h (by decide)
  have hw : wrP S t r v := by
    refine Decidable.byContradiction fun q => ?_
    rw [wrK_3 hth hg q] at h
    exact absurd h (by decide)
  obtain ⟨u, hu, rfl⟩ := (trP_iff hN).mp hth.1
  obtain ⟨j, hj, rfl⟩ := roP_iff.mp hth.2
  have nj : nv (nI j) = j := nv_nI (by omega)
  obtain ⟨k, hk6, hk⟩ := (slF_of S (nI u) (j / 4) (by omega)).resolve_left (by have := hw.2.2.1; rw [nj] at this; exact this)
  have n14 : wr2 S (j / 4) k (nI u) 14 = S 14 := cleanS_n S (j / 4) (by decide) (by decide)
  have hN2 : SN (wr2 S (j / 4) k (nI u)) nT nC nD nM nZ := ((hN.cl (j / 4)).u8 (k := k) hu).u9 (k := k) (x := 0) (Or.inl rfl)
  have hnum : S 13 0 - S 14 0 = nI (nC - nD) := by rw [hN.2.1, hN.2.2.1]; exact pk_sub hd
  have h10 := hN.2.2.2.2.1
  have n0 : ∀ x, wr3 S (j / 4) k (nI u) x 0 j = S 0 j := fun x => congrFun (cleanS_n S (j / 4) (c := 0) (by decide) (by decide)) j
  by_cases c : nC - nD = nZ
  · have hx9 : bI (S 13 0 - S 14 0 = S 10 0) = nI 1 := bI_1 (by rw [hnum, h10, c])
    have hN3 : SN (wr3 S (j / 4) k (nI u) (nI 1)) nT nC (nD + 1) nM nZ := by
      have := hN2.dr (d := 1) (by omega)
      rw [show wr2 S (j / 4) k (nI u) 14 0 = S 14 0 by rw [n14]] at this
      exact this
    refine ⟨nD + 1, ?_⟩
    rw [wrM_eq hN.2.1 (by omega) hj hk hk6 hx9]
    exact hN3.wr hu hj hC (by omega)
  · have hx9 : bI (S 13 0 - S 14 0 = S 10 0) = nI 0 := bI_0 (fun q => c (by rw [hnum, h10] at q; exact (nI_eq (by omega) (by omega)).mp q))
    have hN3 : SN (wr3 S (j / 4) k (nI u) (nI 0)) nT nC (nD + 0) nM nZ := by
      have := hN2.dr (d := 0) (by omega)
      rw [show wr2 S (j / 4) k (nI u) 14 0 = S 14 0 by rw [n14]] at this
      exact this
    refine ⟨nD + 0, ?_⟩
    rw [wrM_eq hN.2.1 (by omega) hj hk hk6 hx9]
    exact hN3.wr hu hj hC (by omega)
theorem op_t (hN : SN S nT nC nD nM nZ) {t : Int32} (h : opK S t = 0) : ∃ u, u < nT ∧ t = nI u := by
  refine (trP_iff hN).mp (Decidable.byContradiction fun q => ?_)
  rw [opK_1 q] at h
  exact absurd h (by decide)
end BR2
