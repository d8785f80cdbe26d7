/-! the class's world in a wider one; numbers behind the calls that change them -/
section BR
variable {D : va_G} {S S' N : St} {ad ad' : Nat → Nat} {w w' w0 : kWd} {nT nC nD nM nZ : Nat}
theorem CW.fr (h : CW D S ad w nT nC) (hN : SN S nT nC nD nM nZ) (hw : ∀ k, k < 2000 → w' k = w k) (ha : ∀ k, k < 2000 → ad' k = ad k) : CW D S ad' w' nT nC := by
  have h60 := hN.2.2.2.2.2.1
  have h512 := hN.2.2.2.2.2.2.1
  have at9 : ∀ t, t < nT → ad' (tkey t) = ad (tkey t) := fun t ht => ha _ (by show 100 + 2 * t < 2000; omega)
  have ac9 : ∀ k, k < nC → ad' (ckey k) = ad (ckey k) := fun t ht => ha _ (by show 101 + 2 * t < 2000; omega)
  refine ⟨?_, ?_, ?_, h.lt.keep (hw _ (by omega)) (hw _ (by omega)) (ha _ (by omega)) at9, h.lc.keep (hw _ (by omega)) (hw _ (by omega)) (ha _ (by omega)) ac9, fun b hb => ⟨?_, ?_⟩, fun j hj => ?_, fun r hr => ?_, fun t ht => ?_, fun k hk => ?_⟩
  · rw [hw 0 (by omega), h.u]
    show some (uCell ad S) = some (uCell ad' S)
    unfold uCell
    rw [ha 1 (by omega), ha 2 (by omega), ha 3 (by omega), ha 4 (by omega)]
  · obtain ⟨f, g1, g2⟩ := h.bs
    exact ⟨f, (hw 1 (by omega)).trans g1, fun i hi => by rw [g2 i hi, ha (10 + i) (by omega)]⟩
  · obtain ⟨f, g1, g2⟩ := h.rs
    exact ⟨f, (hw 2 (by omega)).trans g1, fun i hi => by rw [g2 i hi, ha (24 + i) (by omega)]⟩
  · rw [hw (10 + b) (by omega), h.b hb, ha (13 + b) (by omega)]
  · obtain ⟨f, g1, g2⟩ := h.sa hb
    exact ⟨f, (hw (13 + b) (by omega)).trans g1, fun i hi => by rw [g2 i hi, ha (16 + (2 * b + i)) (by omega)]⟩
  · rw [hw (16 + j) (by omega), h.s hj]
    show some (sCell ad S j) = some (sCell ad' S j)
    unfold sCell
    rw [show hold ad' S j = hold ad S j from by
      rcases hN.sl hj with q | ⟨t, ht, q⟩
      · rw [hold_n q, hold_n q]
      · rw [hold_s q (by omega), hold_s q (by omega), at9 t ht]]
  · rw [hw (24 + r) (by omega), h.r hr]
    show some (rCell ad S r) = some (rCell ad' S r)
    unfold rCell
    rw [ha (10 + r / 4) (by omega)]
  · rw [hw (tkey t) (by show 100 + 2 * t < 2000; omega), h.t ht]
  · rw [hw (ckey k) (by show 101 + 2 * k < 2000; omega), h.c hk]
    show some (cCell ad S k) = some (cCell ad' S k)
    obtain ⟨t, ht, h4⟩ := hN.by hk
    obtain ⟨r, hr, h5⟩ := hN.ro hk
    unfold cCell
    rw [h4, h5, nv_nI (by omega), nv_nI (by omega), at9 t ht, ha (24 + r) (by omega)]
end BR
section BR2
variable {S : St} {nT nC nD nM nZ : Nat}
theorem ss_z (hN : SN S nT nC nD nM nZ) {z : Int32} (h : ssK S z = 0) : ∃ j, 1 ≤ j ∧ j ≤ 30 ∧ nC - nD ≤ j ∧ z = nI j := by
  have h512 := hN.2.2.2.2.2.2.1
  have hd := hN.2.2.2.2.2.2.2.1
  have h1 : inP z 1 30 := by
    refine Decidable.byContradiction fun q => ?_
    rw [ssK_1 q] at h
    exact absurd h (by decide)
  have h2 : S 13 0 - S 14 0 ≤ z := by
    refine Decidable.byContradiction fun q => ?_
    rw [ssK_2 h1 q] at h
    exact absurd h (by decide)
  obtain ⟨j, hj, rfl⟩ := nI_of (fun q => h1.1 (Int32.lt_of_lt_of_le q (by decide)))
  refine ⟨j, ?_, ?_, ?_, rfl⟩
  · rcases Nat.lt_or_ge j 1 with q | q
    · exact absurd (nI_lt q (by decide)) h1.1
    · exact q
  · rcases Nat.lt_or_ge 30 j with q | q
    · exact absurd (nI_lt q hj) h1.2
    · exact q
  · rw [hN.2.1, hN.2.2.1, pk_sub hd] at h2
    rcases Nat.lt_or_ge j (nC - nD) with q | q
    · exact absurd h2 (nI_ge q (by omega))
    · exact q
theorem SN.unS (hN : SN S nT nC nD nM nZ) {t z : Int32} : SN (unS S t z) nT nC nD nM nZ := by
  have h512 := hN.2.2.2.2.2.2.1
  show SN (unL t (nv (S 13 0)) z S) nT nC nD nM nZ
  rw [show nv (S 13 0) = nC by rw [hN.2.1]; exact nv_nI (by omega)]
  exact SN.unLoop nC z S (Nat.le_refl _) hN
theorem SN.wrM (hN : SN S nT nC nD nM nZ) (hC : nC < 512) {t r v : Int32} (h : wrK S t r v = 0) : ∃ nD', SN (wrM S t r v) nT (nC + 1) nD' nM nZ := by
  have h60 := hN.2.2.2.2.2.1
  have hd := hN.2.2.2.2.2.2.2.1
  have hz1 := hN.2.2.2.2.2.2.2.2.2.1
  have hz30 := hN.2.2.2.2.2.2.2.2.2.2.1
  have hzz := hN.2.2.2.2.2.2.2.2.2.2.2.1
  have hth : trP S t ∧ roP r := by
    refine Decidable.byContradiction fun q => ?_
    rw [wrK_1 q] at h
    exact absurd h (by decide)
  have hg : goodP v := by
    refine Decidable.byContradiction fun q => ?_
    rw [wrK_2 hth q] at h
    exact absurd h (by decide)
  have hw : wrP S t r v := by
    refine Decidable.byContradiction fun q => ?_
    rw [wrK_3 hth hg q] at h
    exact absurd h (by decide)
  obtain ⟨u, hu, rfl⟩ := (trP_iff hN).mp hth.1
  obtain ⟨j, hj, rfl⟩ := roP_iff.mp hth.2
  have nj : nv (nI j) = j := nv_nI (by omega)
  obtain ⟨k, hk6, hk⟩ := (slF_of S (nI u) (j / 4) (by omega)).resolve_left (by have := hw.2.2.1; rw [nj] at this; exact this)
  have n14 : wr2 S (j / 4) k (nI u) 14 = S 14 := cleanS_n S (j / 4) (by decide) (by decide)
  have hN2 : SN (wr2 S (j / 4) k (nI u)) nT nC nD nM nZ := ((hN.cl (j / 4)).u8 (k := k) hu).u9 (k := k) (x := 0) (Or.inl rfl)
  have hnum : S 13 0 - S 14 0 = nI (nC - nD) := by rw [hN.2.1, hN.2.2.1]; exact pk_sub hd
  have h10 := hN.2.2.2.2.1
  have n0 : ∀ x, wr3 S (j / 4) k (nI u) x 0 j = S 0 j := fun x => congrFun (cleanS_n S (j / 4) (c := 0) (by decide) (by decide)) j
  by_cases c : nC - nD = nZ
  · have hx9 : bI (S 13 0 - S 14 0 = S 10 0) = nI 1 := bI_1 (by rw [hnum, h10, c])
    have hN3 : SN (wr3 S (j / 4) k (nI u) (nI 1)) nT nC (nD + 1) nM nZ := by
      have := hN2.dr (d := 1) (by omega)
      rw [show wr2 S (j / 4) k (nI u) 14 0 = S 14 0 by rw [n14]] at this
      exact this
    refine ⟨nD + 1, ?_⟩
    rw [wrM_eq hN.2.1 (by omega) hj hk hk6 hx9]
    exact hN3.wr hu hj hC (by omega)
  · have hx9 : bI (S 13 0 - S 14 0 = S 10 0) = nI 0 := bI_0 (fun q => c (by rw [hnum, h10] at q; exact (nI_eq (by omega) (by omega)).mp q))
    have hN3 : SN (wr3 S (j / 4) k (nI u) (nI 0)) nT nC (nD + 0) nM nZ := by
      have := hN2.dr (d := 0) (by omega)
      rw [show wr2 S (j / 4) k (nI u) 14 0 = S 14 0 by rw [n14]] at this
      exact this
    refine ⟨nD + 0, ?_⟩
    rw [wrM_eq hN.2.1 (by omega) hj hk hk6 hx9]
    exact hN3.wr hu hj hC (by omega)
theorem op_t (hN : SN S nT nC nD nM nZ) {t : Int32} (h : opK S t = 0) : ∃ u, u < nT ∧ t = nI u := by
  refine (trP_iff hN).mp (Decidable.byContradiction fun q => ?_)
  rw [opK_1 q] at h
  exact absurd h (by decide)
end BR2
