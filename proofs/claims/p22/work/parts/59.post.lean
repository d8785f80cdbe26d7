/-! what stands between two steps -/
def lkX (D : va_G) (r0 q : Nat) (ad : Nat → Nat) (w : kWd) : Prop := ∃ (S : St) (nT nC nD nM nZ : Nat) (aF cF eF : Nat → Int32), CW D S ad w nT nC ∧ SN S nT nC nD nM nZ ∧ GI S nT nC nM ∧ nC ≤ q ∧
  w 2101 = some (.inl (D.1 100, 60, .inl aF)) ∧ w 2102 = some (.inl (D.1 100, 6, .inl cF)) ∧ w 2103 = some (.inl (D.1 100, 61, .inl eF)) ∧ AF S nT aF ∧ CF S cF ∧ EF S nM r0 eF
/-- a step's end -/
def lkP (D : va_G) (r0 q : Nat) (ad : Nat → Nat) : Int32 → (Nat → Nat) → kWd → Prop := fun v ad' w' => v = 1 ∧ lkX D r0 (q + 1) ad' w' ∧ ad' 0 = ad 0 ∧ ad' 2101 = ad 2101 ∧ ad' 2102 = ad 2102 ∧ ad' 2103 = ad 2103
section PZ
variable {S : St} {nT nC nD nM nZ : Nat} {t r v : Int32}
theorem wrK_p (h : wrK S t r v = 0) : wrP S t r v := by
  have hth : trP S t ∧ roP r := by
    refine Decidable.byContradiction fun q => ?_
    rw [wrK_1 q] at h
    exact absurd h (by decide)
  have hg : goodP v := by
    refine Decidable.byContradiction fun q => ?_
    rw [wrK_2 hth q] at h
    exact absurd h (by decide)
  refine Decidable.byContradiction fun q => ?_
  rw [wrK_3 hth hg q] at h
  exact absurd h (by decide)
theorem wrK_e (h1 : trP S t ∧ roP r) (h2 : goodP v) : wrK S t r v ≠ 1 ∧ wrK S t r v ≠ 2 ∧ (wrK S t r v = 3 → ¬ wrP S t r v) := by
  by_cases c : wrP S t r v
  · rw [wrK_0 h1 h2 c]
    exact ⟨by decide, by decide, fun q => absurd q (by decide)⟩
  · rw [wrK_3 h1 h2 c]
    exact ⟨by decide, by decide, fun _ => c⟩
theorem vOK_8 {x : Int32} (h : vOK x) : ¬ x = -9000008 := fun e => h (by rw [e]; decide)
theorem vOK_10 {x : Int32} (h : vOK x) : ¬ x = -9000010 := fun e => h (by rw [e]; decide)
theorem roP_j {j : Nat} (hj : j < 12) : roP (nI j) := roP_iff.mpr ⟨j, hj, rfl⟩
end PZ
section PQ
variable {S : St} {nT nC nD nM nZ : Nat} {aF cF eF : Nat → Int32} {r0 : Nat}
theorem AF.cl (h : AF S nT aF) (b : Nat) : AF (cleanS S b) nT aF := h.cg (cleanS_n S b (by decide) (by decide)) (cleanS_n S b (by decide) (by decide))
theorem EF.cl (h : EF S nM r0 eF) (b : Nat) : EF (cleanS S b) nM r0 eF := h.cg (fun _ _ => ver_cl b)
theorem rd_ok (hN : SN S nT nC nD nM nZ) (hG : GI S nT nC nM) {t j : Nat} (ht : t < nT) (ha : S 1 t = 0) (hj : j < 12) {m : Int32} : vOK (vaV S m (nI j) (nI t)).1 := by
  rw [ver_read hN hG ht ha hj]
  by_cases c : lockV S (nI j) = nI t
  · rw [if_pos c]; exact hG.2.2.2.2.2.1 j hj
  · rw [if_neg c]; exact ver_ok hN hG hj
theorem r1K_t (hN : SN S nT nC nD nM nZ) {t j : Nat} (ht : t < nT) (hj : j < 12) : (S 1 t = 0 → r1K S (nI t) (nI j) = 0) ∧ (¬ S 1 t = 0 → r1K S (nI t) (nI j) = 2) := by
  have h60 := hN.2.2.2.2.2.1
  exact ⟨fun h => r1K_0 (trP_t hN ht) (roP_j hj) ((actP_t (by omega)).mpr h), fun h => r1K_2 (trP_t hN ht) (roP_j hj) (fun q => h ((actP_t (by omega)).mp q))⟩
theorem opK_t (hN : SN S nT nC nD nM nZ) {t : Nat} (ht : t < nT) : (S 1 t = 0 → opK S (nI t) = 0) ∧ (¬ S 1 t = 0 → opK S (nI t) = 2) := by
  have h60 := hN.2.2.2.2.2.1
  exact ⟨fun h => opK_0 (trP_t hN ht) ((actP_t (by omega)).mpr h), fun h => opK_2 (trP_t hN ht) (fun q => h ((actP_t (by omega)).mp q))⟩
end PQ
/-! undoing -/
section PU
variable {S : St} {nT nC nD nM nZ : Nat} {aF cF eF : Nat → Int32} {r0 : Nat} {t : Int32} {z : Int32}
theorem unS_n {c : Nat} (h0 : c ≠ 0) (h7 : c ≠ 7) : unS S t z c = S c := unL_n h0 h7 _ _ _
theorem AF.un (h : AF S nT aF) : AF (unS S t z) nT aF := h.cg (unS_n (by decide) (by decide)) (unS_n (by decide) (by decide))
theorem CF.un (h : CF S cF) : CF (unS S t z) cF := h.cg (by rw [unS_n (by decide) (by decide)]) (by rw [unS_n (by decide) (by decide)]) (by rw [unS_n (by decide) (by decide)]) (by rw [unS_n (by decide) (by decide)]) (by rw [unS_n (by decide) (by decide)]) (by rw [unS_n (by decide) (by decide)])
theorem inP_no {n : Nat} (h : n + 1 < 2 ^ 31) : ¬ inP (nI n + 1) 0 (nI n) := fun q => q.2 (by rw [nI_1]; exact nI_lt (Nat.lt_succ_self n) h)
theorem inP_m1 {x : Int32} : ¬ inP (-1) 0 x := fun q => q.1 (by decide)
/-- undone down to k changes -/
theorem un_to (hN : SN S nT nC nD nM nZ) (hG : GI S nT nC nM) {u k : Nat} (hu : u < nT) (ha : S 1 u = 0) (hk : k ≤ stN S (nI u) nC) : ∃ T : St, T = unS S (nI u) (stV S (nI u) - nI k) ∧ SN T nT nC nD nM nZ ∧ GI T nT nC nM ∧ (∀ (m : Int32) (i : Nat), i < 12 → verV T m (nI i) = verV S m (nI i)) ∧ stV T (nI u) = nI k ∧ T 1 = S 1 ∧ T 2 = S 2 ∧ (∀ c, c ≠ 0 → c ≠ 7 → T c = S c) ∧ (k = 0 → ∀ q, q < nC → T 4 q = nI u → T 7 q ≠ 0) := by
  have h60 := hN.2.2.2.2.2.1
  refine ⟨_, rfl, ?_⟩
  rw [stV_N hN, pk_sub hk]
  obtain ⟨g1, g2, g3⟩ := un_S hN hG (t := nI u) ((actP_t (by omega)).mpr ha) (z := stN S (nI u) nC - k) (by omega)
  refine ⟨hN.unS, g1, g2, ?_, unS_n (by decide) (by decide), unS_n (by decide) (by decide), fun c h0 h7 => unS_n h0 h7, fun h0 => stN_0 nC (by omega)⟩
  rw [stV_N hN.unS, show stN (unS S (nI u) (nI (stN S (nI u) nC - k))) (nI u) nC = k by omega]
end PU
/-! a step's numbers -/
theorem lw_val {n : Nat} (h : n < 2000) : goodP (nI n - 1000) := by
  have e : (nI n - 1000).toInt = (n : Int) - 1000 := pk_sub_toInt (a := n) (b := 1000) (by omega) (by omega)
  refine ⟨fun q => ?_, fun q => ?_⟩
  · have := Int32.lt_iff_toInt_lt.mp q
    rw [e, show (-1000000 : Int32).toInt = -1000000 from rfl] at this
    omega
  · have := Int32.lt_iff_toInt_lt.mp q
    rw [e, show (1000000 : Int32).toInt = 1000000 from rfl] at this
    omega
section PS
variable {S : St} {nT nC nD nM nZ : Nat} {cF : Nat → Int32}
theorem bgK_n (hN : SN S nT nC nD nM nZ) : (nT = 60 → bgK S = 1) ∧ (nT < 60 → bgK S = 0) := by
  refine ⟨fun h => if_pos (by rw [hN.1, h]; rfl), fun h => if_neg (fun q => ?_)⟩
  rw [hN.1] at q
  exact absurd ((nI_eq (a := nT) (b := 60) (by omega) (by omega)).mp q) (by omega)
theorem ssK_n (hN : SN S nT nC nD nM nZ) {z : Nat} (h1 : 1 ≤ z) (h2 : z ≤ 30) : (nC - nD ≤ z → ssK S (nI z) = 0) ∧ (z < nC - nD → ssK S (nI z) = 2) := by
  have h512 := hN.2.2.2.2.2.2.1
  have hin : inP (nI z) 1 30 := ⟨nI_nlt (a := z) (b := 1) h1 (by omega), nI_nlt (a := 30) (b := z) h2 (by omega)⟩
  have e : S 13 0 - S 14 0 = nI (nC - nD) := by rw [hN.2.1, hN.2.2.1]; exact pk_sub hN.2.2.2.2.2.2.2.1
  exact ⟨fun h => ssK_0 hin (by rw [e]; exact nI_le h (by omega)), fun h => ssK_2 hin (by rw [e]; exact nI_ge h (by omega))⟩
theorem CF.c2 (hN : SN S nT nC nD nM nZ) (h : CF S cF) : cF 2 = nI (nC - nD) := by
  rw [h.2.2.1, hN.2.1, hN.2.2.1]
  exact pk_sub hN.2.2.2.2.2.2.2.1
theorem CF.same5 (h : CF S cF) : CF S (upd cF 5 (S 10 0)) := by
  obtain ⟨h0, h1, h2, h3, h4, h5⟩ := h
  exact ⟨h0, h1, h2, h3, h4, rfl⟩
end PS
