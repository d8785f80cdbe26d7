/-! the property behind a write; the law's arrays -/
section PX
variable {S S' : St} {m r : Int32} {nT nC nD nM nZ : Nat}
theorem nI_inj {a b : Nat} (ha : a < 2 ^ 31) (hb : b < 2 ^ 31) (h : nI a = nI b) : a = b := (nI_eq ha hb).mp h
theorem slF_q {t : Int32} {b q : Nat} (hb : b < 3) (hq : q < 6) (h5 : S 8 (2 * b) = -1 ∨ S 8 (2 * b) ≠ S 8 (2 * b + 1)) (ht : t ≠ -1) (h : slF S t b = nI q) :
    (S 8 q = t ∨ freeP S q) ∧ ((q = 2 * b ∧ S 8 (2 * b + 1) ≠ t) ∨ (q = 2 * b + 1 ∧ S 8 (2 * b) ≠ t)) := by
  by_cases c1 : S 8 (2 * b) = t
  · rw [slF_o0 hb c1] at h
    have e := nI_inj (by omega) (by omega) h
    subst e
    refine ⟨Or.inl c1, Or.inl ⟨rfl, fun z => ?_⟩⟩
    rcases h5 with g | g
    · exact ht (c1.symm.trans g)
    · exact g (c1.trans z.symm)
  · by_cases c2 : S 8 (2 * b + 1) = t
    · rw [slF_o1 hb c1 c2] at h
      have e := nI_inj (by omega) (by omega) h
      subst e
      exact ⟨Or.inl c2, Or.inr ⟨rfl, c1⟩⟩
    · by_cases f0 : freeP S (2 * b)
      · rw [slF_f0 c1 c2 f0] at h
        have e := nI_inj (by omega) (by omega) h
        subst e
        exact ⟨Or.inr f0, Or.inl ⟨rfl, c2⟩⟩
      · by_cases f1 : freeP S (2 * b + 1)
        · rw [slF_f1 c1 c2 f0 f1] at h
          have e := nI_inj (by omega) (by omega) h
          subst e
          exact ⟨Or.inr f1, Or.inr ⟨rfl, c1⟩⟩
        · rw [slF_fn c1 c2 f0 f1] at h
          exact absurd h.symm (nI_nm1 (by omega))
theorem slF_may {t : Int32} {b : Nat} (hb : b < 3) : slF S t b ≠ -1 ↔ ((S 8 (2 * b) = t ∨ S 8 (2 * b + 1) = t) ∨ (freeP S (2 * b) ∨ freeP S (2 * b + 1))) := by
  by_cases c1 : S 8 (2 * b) = t
  · rw [slF_o0 hb c1]
    exact ⟨fun _ => Or.inl (Or.inl c1), fun _ => nI_nm1 (by omega)⟩
  · by_cases c2 : S 8 (2 * b + 1) = t
    · rw [slF_o1 hb c1 c2]
      exact ⟨fun _ => Or.inl (Or.inr c2), fun _ => nI_nm1 (by omega)⟩
    · by_cases f0 : freeP S (2 * b)
      · rw [slF_f0 c1 c2 f0]
        exact ⟨fun _ => Or.inr (Or.inl f0), fun _ => nI_nm1 (by omega)⟩
      · by_cases f1 : freeP S (2 * b + 1)
        · rw [slF_f1 c1 c2 f0 f1]
          exact ⟨fun _ => Or.inr (Or.inr f1), fun _ => nI_nm1 (by omega)⟩
        · rw [slF_fn c1 c2 f0 f1]
          exact ⟨fun h => absurd rfl h, fun h => (h.elim (fun z => z.elim c1 c2) (fun z => z.elim f0 f1)).elim⟩
theorem wrM_c (hN : SN S nT nC nD nM nZ) {t j q : Nat} (v : Int32) (hj : j < 12) (hk : slF S (nI t) (j / 4) = nI q) (hq : q < 6) :
    wrM S (nI t) (nI j) v 0 = upd (S 0) j v ∧ wrM S (nI t) (nI j) v 1 = S 1 ∧ wrM S (nI t) (nI j) v 2 = S 2 ∧ wrM S (nI t) (nI j) v 3 = S 3 ∧ wrM S (nI t) (nI j) v 4 = upd (S 4) nC (nI t) ∧ wrM S (nI t) (nI j) v 5 = upd (S 5) nC (nI j) ∧ wrM S (nI t) (nI j) v 6 = upd (S 6) nC (S 0 j) ∧ wrM S (nI t) (nI j) v 7 = S 7 ∧ wrM S (nI t) (nI j) v 8 = upd (S 8) q (nI t) ∧ wrM S (nI t) (nI j) v 9 = upd (cleanS S (j / 4) 9) q 0 ∧
    wrM S (nI t) (nI j) v 10 = S 10 ∧ wrM S (nI t) (nI j) v 11 = S 11 ∧ wrM S (nI t) (nI j) v 12 = S 12 ∧ wrM S (nI t) (nI j) v 13 0 = S 13 0 + 1 ∧ wrM S (nI t) (nI j) v 14 0 = S 14 0 + bI (S 13 0 - S 14 0 = S 10 0) ∧ wrM S (nI t) (nI j) v 15 = cleanS S (j / 4) 15 := by
  have h512 := hN.2.2.2.2.2.2.1
  have e : ∀ c, c ≠ 9 → c ≠ 15 → cleanS S (j / 4) c = S c := fun c a d => cleanS_n S _ a d
  rw [wrM_eq hN.2.1 (by omega) hj hk hq rfl]
  refine ⟨?_, e 1 (by decide) (by decide), e 2 (by decide) (by decide), e 3 (by decide) (by decide), ?_, ?_, ?_, e 7 (by decide) (by decide), ?_, rfl, e 10 (by decide) (by decide), e 11 (by decide) (by decide), e 12 (by decide) (by decide), ?_, rfl, rfl⟩
  · show upd (cleanS S (j / 4) 0) (nv (nI j)) v = _
    rw [e 0 (by decide) (by decide), nvR hj]
  · show upd (cleanS S (j / 4) 4) nC (nI t) = _
    rw [e 4 (by decide) (by decide)]
  · show upd (cleanS S (j / 4) 5) nC (nI j) = _
    rw [e 5 (by decide) (by decide)]
  · show upd (cleanS S (j / 4) 6) nC (S 0 j) = _
    rw [e 6 (by decide) (by decide)]
  · show upd (cleanS S (j / 4) 8) q (nI t) = _
    rw [e 8 (by decide) (by decide)]
  · show cleanS S (j / 4) 13 0 + 1 = _
    rw [e 13 (by decide) (by decide)]
theorem GI.wr (hN : SN S nT nC nD nM nZ) (hG : GI S nT nC nM) {t j q : Nat} {v : Int32} (ht : t < nT) (ha : S 1 t = 0) (hj : j < 12) (hk : slF S (nI t) (j / 4) = nI q) (hq : q < 6) (hlk : lockV S (nI j) = -1 ∨ lockV S (nI j) = nI t) (hv : vOK v) : GI (wrM S (nI t) (nI j) v) nT (nC + 1) nM := by
  have h60 := hN.2.2.2.2.2.1
  obtain ⟨e0, e1, -, -, e4, e5, e6, e7, e8, e9, -⟩ := wrM_c hN v hj hk hq
  obtain ⟨s1, s2⟩ := slF_q (by omega) hq (hG.2.2.2.2.1 (j / 4) (by omega)) (nI_nm1 (show t < 2 ^ 31 by omega)) hk
  have hlk9 : ∀ k, k < nC → onR S (nI j) k → actP S (S 4 k) → S 4 k = nI t := fun k a b d => by
    have z := lk_of hN hG a b d
    rcases hlk with w | w
    · exact absurd (z.symm.trans w) (hN.b1 a)
    · exact z.symm.trans w
  obtain ⟨h1, h2, h3, h4, h5, h6, h7, h8⟩ := hG
  generalize wrM S (nI t) (nI j) v = S' at e0 e1 e4 e5 e6 e7 e8 e9 ⊢
  unfold GI actP
  rw [e0, e1, e4, e5, e6, e7, e8, e9]
  refine ⟨fun k hk9 q7 => ?_, fun i k hik hk9 q1 q2 q3 q4 => ?_, fun k hk9 q7 q1 => ?_, fun i hi q9 => ?_, fun b hb => ?_, fun r hr => ?_, fun k hk9 => ?_, (cmL_c e1 nT).trans h8⟩
  · by_cases c : k = nC
    · rw [c, upd_s, nvT (by omega), ha]; decide
    · rw [upd_n c]; exact h1 k (by omega) q7
  · by_cases c : k = nC
    · subst c
      rw [upd_s, upd_n (show i ≠ k by omega)] at q3 ⊢
      rw [upd_n (show i ≠ k by omega)] at q4
      exact hlk9 i hik ⟨q3, q1⟩ q4
    · rw [upd_n c, upd_n (show i ≠ nC by omega)] at q3 ⊢
      rw [upd_n (show i ≠ nC by omega)] at q4
      exact h2 i k hik (by omega) q1 q2 q3 q4
  · by_cases c : k = nC
    · subst c
      rw [upd_s, upd_s, nvR hj]
      rcases s2 with ⟨z, -⟩ | ⟨z, -⟩
      · rw [← z, upd_s]; exact Or.inl rfl
      · rw [← z, upd_s]; exact Or.inr rfl
    · rw [upd_n c] at q1
      rw [upd_n c, upd_n c]
      have key : ∀ i, S 8 i = S 4 k → upd (S 8) q (nI t) i = S 4 k := fun i z => by
        by_cases d : i = q
        · subst d
          rw [upd_s]
          rcases s1 with w | w | w
          · exact w.symm.trans z
          · exact absurd (z.symm.trans w) (hN.b1 (show k < nC by omega))
          · rw [z] at w; exact absurd q1 w
        · rw [upd_n d]; exact z
      exact (h3 k (by omega) q7 q1).imp (key _) (key _)
  · by_cases d : i = q
    · subst d
      rw [upd_s] at q9
      exact absurd q9 (by decide)
    · rw [upd_n d] at q9 ⊢
      rw [cleanS_9] at q9
      by_cases c : (i = 2 * (j / 4) ∨ i = 2 * (j / 4) + 1) ∧ endP S i
      · exact ⟨c.2.1, c.2.2.1⟩
      · rw [if_neg c] at q9; exact h4 i hi q9
  · by_cases c : b = j / 4
    · subst c
      refine Or.inr ?_
      rcases s2 with ⟨z, w⟩ | ⟨z, w⟩
      · subst z
        rw [upd_s, upd_n (by omega)]; exact Ne.symm w
      · subst z
        rw [upd_s, upd_n (by omega)]; exact w
    · have : q ≠ 2 * b ∧ q ≠ 2 * b + 1 := by
        rcases s2 with ⟨z, -⟩ | ⟨z, -⟩ <;> omega
      rw [upd_n (Ne.symm this.1), upd_n (Ne.symm this.2)]
      exact h5 b hb
  · by_cases c : r = j
    · rw [c, upd_s]; exact hv
    · rw [upd_n c]; exact h6 r hr
  · by_cases c : k = nC
    · rw [c, upd_s]; exact h6 j hj
    · rw [upd_n c]; exact h7 k (by omega)
theorem ver_wr (hN : SN S nT nC nD nM nZ) {t j q : Nat} {v : Int32} (ht : t < nT) (ha : S 1 t = 0) (hj : j < 12) (hk : slF S (nI t) (j / 4) = nI q) (hq : q < 6) {i : Nat} (hi : i < 12) : verV (wrM S (nI t) (nI j) v) m (nI i) = verV S m (nI i) := by
  have h60 := hN.2.2.2.2.2.1
  have h512 := hN.2.2.2.2.2.2.1
  have hvn := hN.vn (Nat.le_refl nC)
  obtain ⟨e0, e1, -, e3, e4, e5, e6, e7, -, -, -, -, -, e13, -⟩ := wrM_c hN v hj hk hq
  rw [verV_e hN hi]
  generalize wrM S (nI t) (nI j) v = S' at e0 e1 e3 e4 e5 e6 e7 e13 ⊢
  unfold verV
  rw [e13, hN.2.1, nI_1, nv_nI (show nC + 1 < 2 ^ 31 by omega), nvR hi, e0]
  have hcg : ∀ v, verL S' m (nI i) nC v = verL S m (nI i) nC v := fun v => verL_cong nC v (fun k hk9 => by
    unfold onR
    rw [e5, e7, upd_n (show k ≠ nC by omega)]) (fun k hk9 _ => by
    unfold comP
    rw [e1, e3, e4, e6, upd_n (show k ≠ nC by omega), upd_n (show k ≠ nC by omega)]
    exact ⟨rfl, Iff.rfl⟩)
  by_cases c : i = j
  · subst c
    rw [verL_u (show onR S' (nI i) nC by unfold onR; rw [e5, e7, upd_s]; exact ⟨rfl, hvn⟩) (by
      unfold comP
      rw [e1, e4, upd_s, nvT (by omega), ha]
      exact fun z => absurd z.1 (by decide)), e6, upd_s]
    exact hcg _
  · rw [upd_n c, verL_n (by
      unfold onR
      rw [e5, upd_s]
      exact fun z => c (nI_inj (by omega) (by omega) z.1.symm))]
    exact hcg _
/-- what a write leaves -/
theorem wr_post (hN : SN S nT nC nD nM nZ) {nD' : Nat} {t j q : Nat} {v : Int32} (hN' : SN (wrM S (nI t) (nI j) v) nT (nC + 1) nD' nM nZ) (hG' : GI (wrM S (nI t) (nI j) v) nT (nC + 1) nM) (ht : t < nT) (ha : S 1 t = 0) (hj : j < 12) (hk : slF S (nI t) (j / 4) = nI q) (hq : q < 6) :
    lockV (wrM S (nI t) (nI j) v) (nI j) = nI t ∧ wrM S (nI t) (nI j) v 0 j = v ∧ (wrM S (nI t) (nI j) v 8 (2 * (j / 4)) = nI t ∨ wrM S (nI t) (nI j) v 8 (2 * (j / 4) + 1) = nI t) ∧
    (∀ i, i < 6 → wrM S (nI t) (nI j) v 8 i = nI t → wrM S (nI t) (nI j) v 9 i = 0) ∧ ¬ endP (wrM S (nI t) (nI j) v) (2 * (j / 4)) ∧ ¬ endP (wrM S (nI t) (nI j) v) (2 * (j / 4) + 1) ∧ wrM S (nI t) (nI j) v 15 0 = S 15 0 + dyN S (j / 4) := by
  have h60 := hN.2.2.2.2.2.1
  have hvn := hN.vn (Nat.le_refl nC)
  obtain ⟨e0, e1, -, e3, e4, e5, e6, e7, e8, e9, -, -, -, e13, -, e15⟩ := wrM_c hN v hj hk hq
  generalize wrM S (nI t) (nI j) v = S' at hN' hG' e0 e1 e3 e4 e5 e6 e7 e8 e9 e13 e15 ⊢
  have a9 : actP S' (nI t) := by
    unfold actP
    rw [e1, nvT (by omega)]; exact ha
  have o9 : onR S' (nI j) nC := by
    unfold onR
    rw [e5, e7, upd_s]; exact ⟨rfl, hvn⟩
  have b9 : S' 4 nC = nI t := by rw [e4, upd_s]
  have hE : ∀ i, (i = 2 * (j / 4) ∨ i = 2 * (j / 4) + 1) → ¬ endP S' i := fun i hi => by
    rintro ⟨q1, q2, q3⟩
    by_cases c : i = q
    · subst c
      rw [e8, upd_s] at q2
      exact q2 a9
    · rw [e9, upd_n c] at q3
      rw [e8, upd_n c] at q1 q2
      refine clean_end S (j / 4) hi ⟨?_, ?_, q3⟩
      · rw [cleanS_n S _ (by decide) (by decide)]; exact q1
      · unfold actP at q2 ⊢
        rw [cleanS_n S _ (show (8 : Nat) ≠ 9 by decide) (by decide), cleanS_n S _ (show (1 : Nat) ≠ 9 by decide) (by decide), ← e1]; exact q2
  refine ⟨(lk_of hN' hG' (Nat.lt_succ_self nC) o9 (by rw [b9]; exact a9)).trans b9, by rw [e0, upd_s], ?_, fun i hi z => ?_, hE _ (Or.inl rfl), hE _ (Or.inr rfl), by rw [e15]; exact cleanS_15 S _⟩
  · have := hG'.2.2.1 nC (Nat.lt_succ_self nC) o9.2 (by rw [b9]; exact a9)
    rw [b9, o9.1, nvR hj] at this
    exact this
  · rcases hN'.en hi with w | w
    · exact w
    · have := (hG'.2.2.2.1 i hi w).2
      rw [z] at this
      exact absurd a9 this
/-- a refused write -/
theorem wr_not (hN : SN S nT nC nD nM nZ) {t j : Nat} {v : Int32} (hj : j < 12) (hk : ¬ wrP S (nI t) (nI j) v) (hc : canP S (nI t) (nI j) v) (hl : lkO S (nI t) (nI j)) (hs : slF S (nI t) (j / 4) ≠ -1) : S 13 0 - S 14 0 = S 10 0 := by
  have hd := hN.2.2.2.2.2.2.2.1
  have h512 := hN.2.2.2.2.2.2.1
  have hz30 := hN.2.2.2.2.2.2.2.2.2.2.1
  have hzz := hN.2.2.2.2.2.2.2.2.2.2.2.1
  have h : ¬ spP S := fun z => hk ⟨hc, hl, by rw [nvR hj]; exact hs, z⟩
  have h2 : ¬ S 13 0 - S 14 0 < S 10 0 := fun z => h (Or.inl z)
  rw [hN.2.1, hN.2.2.1, hN.2.2.2.2.1, pk_sub hd] at h2 ⊢
  rcases Nat.lt_or_ge (nC - nD) nZ with z | z
  · exact absurd (nI_lt z (by omega)) h2
  · rw [show nC - nD = nZ by omega]
/-! the law's arrays -/
def CF (S : St) (c : Nat → Int32) : Prop := c 0 = S 11 0 ∧ c 1 = S 12 0 ∧ c 2 = S 13 0 - S 14 0 ∧ c 3 = S 14 0 ∧ c 4 = S 15 0 ∧ c 5 = S 10 0
def AF (S : St) (nT : Nat) (a : Nat → Int32) : Prop := ∀ t, t < nT → a t = 4 * S 2 t + S 1 t
def EF (S : St) (nM row : Nat) (e : Nat → Int32) : Prop := ∀ k, k ≤ nM → e k = verV S (nI k) (nI row)
def isA (S : St) (x : Int32) : Int32 := bI (¬ x < 0 ∧ actP S x)
variable {a c e : Nat → Int32}
theorem AF.at (hN : SN S nT nC nD nM nZ) (h : AF S nT a) {t : Nat} (ht : t < nT) : ∃ m s : Nat, m ≤ nM ∧ s ≤ 2 ∧ S 2 t = nI m ∧ S 1 t = nI s ∧ a t = nI (4 * m + s) := by
  have h60 := hN.2.2.2.2.2.1
  obtain ⟨m, hm, e2⟩ := hN.be ht
  have hs : ∃ s, s ≤ 2 ∧ S 1 t = nI s := by
    rcases hN.st (t := t) (by omega) with q | q | q
    · exact ⟨0, by omega, q⟩
    · exact ⟨1, by omega, q⟩
    · exact ⟨2, by omega, q⟩
  obtain ⟨s, hs, e1⟩ := hs
  refine ⟨m, s, hm, hs, e2, e1, ?_⟩
  rw [h t ht, e2, e1, show (4 : Int32) = nI 4 from rfl, pk_mul, nI_add]
theorem AF.rem (hN : SN S nT nC nD nM nZ) (h : AF S nT a) {t : Nat} (ht : t < nT) : a t - a t / 4 * 4 = S 1 t := by
  obtain ⟨m, s, h1, h2, -, e1, e⟩ := h.at hN ht
  have hM := hN.2.2.2.2.2.2.2.2.1
  rw [e, e1]
  refine (pk_rem (a := 4 * m + s) (d := 4) (by omega) (by omega) (by omega)).trans ?_
  rw [show (4 * m + s) % 4 = s by omega]
theorem AF.div (hN : SN S nT nC nD nM nZ) (h : AF S nT a) {t : Nat} (ht : t < nT) : a t / 4 = S 2 t := by
  obtain ⟨m, s, h1, h2, e2, -, e⟩ := h.at hN ht
  have hM := hN.2.2.2.2.2.2.2.2.1
  rw [e, e2]
  refine (pk_div (a := 4 * m + s) (d := 4) (by omega) (by omega) (by omega)).trans ?_
  rw [show (4 * m + s) / 4 = m by omega]
theorem AF.cg (h : AF S nT a) (h1 : S' 1 = S 1) (h2 : S' 2 = S 2) : AF S' nT a := fun t ht => by rw [h t ht, h1, h2]
theorem AF.u (h : AF S nT a) {t : Nat} {x : Int32} (h1 : S' 1 = upd (S 1) t x) (h2 : S' 2 = S 2) (h0 : S 1 t = 0) {y : Int32} (hy : y = a t + x) (ht : t < nT) : AF S' nT (upd a t y) := fun u hu => by
  rw [h1, h2]
  by_cases q : u = t
  · rw [q, upd_s, upd_s, hy, h t ht, h0, Int32.add_zero]
  · rw [upd_n q, upd_n q]; exact h u hu
theorem AF.bg (hN : SN S nT nC nD nM nZ) (h : AF S nT a) {y : Int32} (hy : y = 4 * S 11 0) : AF (bgM S) (nT + 1) (upd a nT y) := fun u hu => by
  have h60 := hN.2.2.2.2.2.1
  show upd a nT y u = 4 * upd (S 2) (nv (S 12 0)) (S 11 0) u + S 1 u
  rw [hN.1, nv_nI (show nT < 2 ^ 31 by omega)]
  by_cases q : u = nT
  · rw [q, upd_s, upd_s, hy, hN.s0 (Nat.le_refl _), Int32.add_zero]
  · rw [upd_n q, upd_n q]; exact h u (by omega)
theorem isA_m1 : isA S (-1) = 0 := by
  show bI (¬ (-1 : Int32) < 0 ∧ actP S (-1)) = 0
  exact bI_0 (fun q => q.1 (by decide))
theorem isA_t {t : Nat} (ht : t < 60) : isA S (nI t) = bI (S 1 t = 0) := by
  unfold isA
  by_cases q : S 1 t = 0
  · rw [bI_1 q, bI_1 ⟨nI_pos (by omega), by unfold actP; rw [nvT ht]; exact q⟩]
  · rw [bI_0 q, bI_0 (fun z => q (by have := z.2; unfold actP at this; rw [nvT ht] at this; exact this))]
theorem isA_e (hN : SN S nT nC nD nM nZ) {i : Nat} (hi : i < 6) : isA S (S 8 i) = bI (S 8 i ≠ -1 ∧ actP S (S 8 i)) := by
  have h60 := hN.2.2.2.2.2.1
  rcases hN.sl hi with q | ⟨t, ht, q⟩
  · rw [q, isA_m1, bI_0 (fun z => z.1 rfl)]
  · rw [q]
    have h1 : nI t ≠ -1 := nI_nm1 (by omega)
    by_cases d : actP S (nI t)
    · rw [bI_1 ⟨h1, d⟩]; exact bI_1 ⟨nI_pos (by omega), d⟩
    · rw [bI_0 (fun z => d z.2)]; exact bI_0 (fun z => d z.2)
theorem CF.cg (h : CF S c) (h10 : S' 10 0 = S 10 0) (h11 : S' 11 0 = S 11 0) (h12 : S' 12 0 = S 12 0) (h13 : S' 13 0 = S 13 0) (h14 : S' 14 0 = S 14 0) (h15 : S' 15 0 = S 15 0) : CF S' c := by
  unfold CF
  rw [h10, h11, h12, h13, h14, h15]
  exact h
theorem CF.cl (h : CF S c) (b : Nat) {y : Int32} (hy : y = c 4 + dyN S b) : CF (cleanS S b) (upd c 4 y) := by
  have e : ∀ d, d ≠ 9 → d ≠ 15 → cleanS S b d = S d := fun d x z => cleanS_n S b x z
  obtain ⟨h0, h1, h2, h3, h4, h5⟩ := h
  unfold CF
  rw [e 10 (by decide) (by decide), e 11 (by decide) (by decide), e 12 (by decide) (by decide), e 13 (by decide) (by decide), e 14 (by decide) (by decide), cleanS_15, ← h4, ← hy]
  exact ⟨h0, h1, h2, h3, upd_s, h5⟩
theorem CF.bg (h : CF S c) {y : Int32} (hy : y = c 1 + 1) : CF (bgM S) (upd c 1 y) := by
  obtain ⟨h0, h1, h2, h3, h4, h5⟩ := h
  refine ⟨h0, ?_, h2, h3, h4, h5⟩
  show y = S 12 0 + 1
  rw [hy, h1]
theorem CF.cm (h : CF S c) {t : Nat} {y : Int32} (hy : y = c 0 + 1) : CF (cmM S t) (upd c 0 y) := by
  obtain ⟨h0, h1, h2, h3, h4, h5⟩ := h
  refine ⟨?_, h1, h2, h3, h4, h5⟩
  show y = S 11 0 + 1
  rw [hy, h0]
theorem CF.ss (h : CF S c) {z : Int32} : CF (sS S 10 z) (upd c 5 z) := by
  obtain ⟨h0, h1, h2, h3, h4, h5⟩ := h
  exact ⟨h0, h1, h2, h3, h4, rfl⟩
theorem CF.wr (hN : SN S nT nC nD nM nZ) (h : CF S c) {t j q : Nat} {v y2 y3 y4 : Int32} (hj : j < 12) (hk : slF S (nI t) (j / 4) = nI q) (hq : q < 6) (h3 : y3 = c 3 + bI (c 2 = c 5)) (h2 : y2 = c 2 + if c 2 = c 5 then 0 else 1) (h4 : y4 = c 4 + dyN S (j / 4)) : CF (wrM S (nI t) (nI j) v) (upd (upd (upd c 3 y3) 2 y2) 4 y4) := by
  have hd := hN.2.2.2.2.2.2.2.1
  have hzz := hN.2.2.2.2.2.2.2.2.2.2.2.1
  have hz30 := hN.2.2.2.2.2.2.2.2.2.2.1
  obtain ⟨-, -, -, -, -, -, -, -, -, -, e10, e11, e12, e13, e14, e15⟩ := wrM_c hN v hj hk hq
  obtain ⟨c0, c1, c2, c3, c4, c5⟩ := h
  unfold CF
  rw [e10, e11, e12, e13, e14, e15, cleanS_15]
  refine ⟨c0, c1, ?_, ?_, ?_, c5⟩
  · show y2 = _
    rw [h2, c2, c5, hN.2.1, hN.2.2.1, hN.2.2.2.2.1, pk_sub hd]
    by_cases z : nI (nC - nD) = nI nZ
    · rw [if_pos z, bI_1 z, nI_1, nI_1, pk_sub (by omega), show nC + 1 - (nD + 1) = nC - nD by omega]
      exact nI_add _ 0
    · rw [if_neg z, bI_0 z, nI_1, nI_1, show nI nD + (0 : Int32) = nI nD from nI_add nD 0, pk_sub (by omega), show nC + 1 - nD = nC - nD + 1 by omega]
  · show y3 = _
    rw [h3, c2, c3, c5]
  · show y4 = _
    rw [h4, c4]
theorem EF.cg {r0 : Nat} (h : EF S nM r0 e) (hv : ∀ k, k ≤ nM → verV S' (nI k) (nI r0) = verV S (nI k) (nI r0)) : EF S' nM r0 e := fun k hk => (h k hk).trans (hv k hk).symm
end PX
