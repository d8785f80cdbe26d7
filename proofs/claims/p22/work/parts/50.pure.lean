/-! the property: versions, locks, slots: what holds at every time -/
abbrev comP (S : St) (m : Int32) (k : Nat) : Prop := S 1 (nv (S 4 k)) = 1 ∧ S 3 (nv (S 4 k)) ≤ m
abbrev onR (S : St) (r : Int32) (k : Nat) : Prop := S 5 k = r ∧ S 7 k = 0
def verL (S : St) (m r : Int32) : Nat → Int32 → Int32
  | 0, v => v
  | n + 1, v => if onR S r n then (if comP S m n then v else verL S m r n (S 6 n)) else verL S m r n v
def verV (S : St) (m r : Int32) : Int32 := verL S m r (nv (S 13 0)) (S 0 (nv r))
def stN (S : St) (t : Int32) : Nat → Nat
  | 0 => 0
  | n + 1 => stN S t n + (if S 4 n = t ∧ S 7 n = 0 then 1 else 0)
def cmL (S : St) : Nat → Nat
  | 0 => 0
  | n + 1 => cmL S n + (if S 1 n = 1 then 1 else 0)
abbrev vOK (x : Int32) : Prop := ¬ x < -1000000
/-- what holds at every time, beside the numbers -/
def GI (S : St) (nT nC nM : Nat) : Prop :=
  (∀ k, k < nC → S 7 k = 0 → S 1 (nv (S 4 k)) ≠ 2) ∧
  (∀ i k, i < k → k < nC → S 7 i = 0 → S 7 k = 0 → S 5 i = S 5 k → actP S (S 4 i) → S 4 i = S 4 k) ∧
  (∀ k, k < nC → S 7 k = 0 → actP S (S 4 k) → S 8 (2 * (nv (S 5 k) / 4)) = S 4 k ∨ S 8 (2 * (nv (S 5 k) / 4) + 1) = S 4 k) ∧
  (∀ i, i < 6 → S 9 i = 1 → S 8 i ≠ -1 ∧ ¬ actP S (S 8 i)) ∧
  (∀ b, b < 3 → S 8 (2 * b) = -1 ∨ S 8 (2 * b) ≠ S 8 (2 * b + 1)) ∧
  (∀ r, r < 12 → vOK (S 0 r)) ∧ (∀ k, k < nC → vOK (S 6 k)) ∧ cmL S nT = nM
section PV
variable {S S' : St} {m m' r t : Int32} {nT nC nD nM nZ : Nat}
theorem verL_y {n : Nat} {v : Int32} (c : onR S r n) (d : comP S m n) : verL S m r (n + 1) v = v := (if_pos c).trans (if_pos d)
theorem verL_u {n : Nat} {v : Int32} (c : onR S r n) (d : ¬ comP S m n) : verL S m r (n + 1) v = verL S m r n (S 6 n) := (if_pos c).trans (if_neg d)
theorem verL_n {n : Nat} {v : Int32} (c : ¬ onR S r n) : verL S m r (n + 1) v = verL S m r n v := if_neg c
theorem vaL_ver : ∀ (n : Nat) (v z : Int32), (∀ k, k < n → onR S r k → S 4 k ≠ t) → (vaL S m r t n v z).1 = verL S m r n v
  | 0, _, _, _ => rfl
  | n + 1, v, z, h => by
    by_cases c : onR S r n
    · by_cases d : comP S m n
      · rw [verL_y c d, show vaL S m r t (n + 1) v z = (v, z) from (if_pos c).trans (if_pos (Or.inr d))]
      · rw [verL_u c d, show vaL S m r t (n + 1) v z = vaL S m r t n (S 6 n) (if z = 0 then bI (nI n < S 14 0) else 1) from (if_pos c).trans (if_neg (fun q => q.elim (h n (Nat.lt_succ_self n) c) d))]
        exact vaL_ver n _ _ (fun k hk => h k (by omega))
    · rw [verL_n c, show vaL S m r t (n + 1) v z = vaL S m r t n v z from if_neg c]
      exact vaL_ver n _ _ (fun k hk => h k (by omega))
theorem verL_cong : ∀ (n : Nat) (v : Int32), (∀ k, k < n → (onR S' r k ↔ onR S r k)) → (∀ k, k < n → onR S r k → S' 6 k = S 6 k ∧ (comP S' m' k ↔ comP S m k)) → verL S' m' r n v = verL S m r n v
  | 0, _, _, _ => rfl
  | n + 1, v, h, g => by
    have hi := fun v => verL_cong n v (fun k hk => h k (by omega)) (fun k hk => g k (by omega))
    by_cases c : onR S r n
    · have c' := (h n (Nat.lt_succ_self n)).mpr c
      obtain ⟨g1, g2⟩ := g n (Nat.lt_succ_self n) c
      by_cases d : comP S m n
      · rw [verL_y c d, verL_y c' (g2.mpr d)]
      · rw [verL_u c d, verL_u c' (fun q => d (g2.mp q)), g1]
        exact hi _
    · rw [verL_n c, verL_n (fun q => c ((h n (Nat.lt_succ_self n)).mp q))]
      exact hi _
theorem verV_c (h0 : S' 0 = S 0) (h1 : S' 1 = S 1) (h3 : S' 3 = S 3) (h4 : S' 4 = S 4) (h5 : S' 5 = S 5) (h6 : S' 6 = S 6) (h7 : S' 7 = S 7) (h13 : S' 13 = S 13) : verV S' m r = verV S m r := by
  unfold verV
  rw [h13, h0]
  refine verL_cong _ _ (fun k _ => ?_) (fun k _ _ => ⟨by rw [h6], ?_⟩)
  · unfold onR; rw [h5, h7]
  · unfold comP; rw [h1, h3, h4]
theorem verL_top {n0 : Nat} {v : Int32} : ∀ n : Nat, n0 ≤ n → (∀ k, n0 ≤ k → k < n → ¬ onR S r k) → verL S m r n v = verL S m r n0 v
  | 0, h, _ => by rw [show n0 = 0 by omega]
  | n + 1, h, g => by
    by_cases c : n0 = n + 1
    · rw [c]
    · rw [verL_n (g n (by omega) (by omega))]
      exact verL_top n (by omega) (fun k h1 h2 => g k h1 (by omega))
theorem vaL_top {n0 : Nat} {v z : Int32} : ∀ n : Nat, n0 ≤ n → (∀ k, n0 ≤ k → k < n → ¬ onR S r k) → vaL S m r t n v z = vaL S m r t n0 v z
  | 0, h, _ => by rw [show n0 = 0 by omega]
  | n + 1, h, g => by
    by_cases c : n0 = n + 1
    · rw [c]
    · rw [show vaL S m r t (n + 1) v z = vaL S m r t n v z from if_neg (g n (by omega) (by omega))]
      exact vaL_top n (by omega) (fun k h1 h2 => g k h1 (by omega))
theorem lkL_top {n0 : Nat} : ∀ n : Nat, n0 ≤ n → (∀ k, n0 ≤ k → k < n → ¬ onR S r k) → lkL S r n = lkL S r n0
  | 0, h, _ => by rw [show n0 = 0 by omega]
  | n + 1, h, g => by
    by_cases c : n0 = n + 1
    · rw [c]
    · rw [show lkL S r (n + 1) = lkL S r n from if_neg (g n (by omega) (by omega))]
      exact lkL_top n (by omega) (fun k h1 h2 => g k h1 (by omega))
theorem last_on (S : St) (r : Int32) : ∀ n : Nat, (∀ k, k < n → ¬ onR S r k) ∨ ∃ k, k < n ∧ onR S r k ∧ ∀ j, k + 1 ≤ j → j < n → ¬ onR S r j
  | 0 => Or.inl (fun k hk => absurd hk (Nat.not_lt_zero k))
  | n + 1 => by
    by_cases c : onR S r n
    · exact Or.inr ⟨n, Nat.lt_succ_self n, c, fun j h1 h2 => by omega⟩
    · rcases last_on S r n with h | ⟨k, h1, h2, h3⟩
      · refine Or.inl (fun k hk => ?_)
        by_cases q : k = n
        · rw [q]; exact c
        · exact h k (by omega)
      · refine Or.inr ⟨k, by omega, h2, fun j g1 g2 => ?_⟩
        by_cases q : j = n
        · rw [q]; exact c
        · exact h3 j g1 (by omega)
theorem nvT {a : Nat} (h : a < 60) : nv (nI a) = a := nv_nI (by omega)
theorem nvR {a : Nat} (h : a < 12) : nv (nI a) = a := nv_nI (by omega)
theorem SN.n13 (hN : SN S nT nC nD nM nZ) : nv (S 13 0) = nC := by
  rw [hN.2.1]
  exact nv_nI (by have := hN.2.2.2.2.2.2.1; omega)
theorem SN.b1 (hN : SN S nT nC nD nM nZ) {k : Nat} (hk : k < nC) : S 4 k ≠ -1 := by
  obtain ⟨t, ht, e⟩ := hN.by hk
  have := hN.2.2.2.2.2.1
  rw [e]
  exact nI_nm1 (by omega)
theorem verV_e (hN : SN S nT nC nD nM nZ) {i : Nat} (hi : i < 12) : verV S m (nI i) = verL S m (nI i) nC (S 0 i) := by
  unfold verV
  rw [hN.n13, nvR hi]
theorem vaV_ver (hN : SN S nT nC nD nM nZ) : (vaV S m r (-1)).1 = verV S m r := by
  unfold vaV verV
  rw [hN.n13]
  exact vaL_ver nC _ _ (fun k hk _ => hN.b1 hk)
/-! locks -/
theorem lk_last (hN : SN S nT nC nD nM nZ) {k : Nat} (hk : k < nC) (h : onR S r k) (hl : ∀ j, k + 1 ≤ j → j < nC → ¬ onR S r j) : lkL S r (nv (S 13 0)) = S 4 k := by
  rw [hN.n13, lkL_top nC (by omega) hl]
  exact if_pos h
theorem lk_of (hN : SN S nT nC nD nM nZ) (hG : GI S nT nC nM) {k : Nat} (hk : k < nC) (h : onR S r k) (ha : actP S (S 4 k)) : lockV S r = S 4 k := by
  rcases last_on S r nC with q | ⟨L, q1, q2, q3⟩
  · exact absurd h (q k hk)
  · have e : S 4 L = S 4 k := by
      by_cases c : k = L
      · rw [c]
      · have : k < L := by
          rcases Nat.lt_or_ge L k with z | z
          · exact absurd h (q3 k z hk)
          · omega
        exact (hG.2.1 k L this q1 h.2 q2.2 (h.1.trans q2.1.symm) ha).symm
    unfold lockV
    rw [lk_last hN q1 q2 q3, e]
    exact if_pos ⟨hN.b1 hk, ha⟩
theorem lk_inv (hN : SN S nT nC nD nM nZ) (h : lockV S r ≠ -1) : ∃ k, k < nC ∧ onR S r k ∧ S 4 k = lockV S r ∧ actP S (lockV S r) ∧ ∀ j, k + 1 ≤ j → j < nC → ¬ onR S r j := by
  unfold lockV at h ⊢
  by_cases c : lkL S r (nv (S 13 0)) ≠ -1 ∧ actP S (lkL S r (nv (S 13 0)))
  · rw [if_pos c]
    rcases last_on S r nC with q | ⟨L, q1, q2, q3⟩
    · have e : lkL S r (nv (S 13 0)) = -1 := by rw [hN.n13, lkL_top nC (Nat.zero_le _) (fun k _ hk => q k hk)]; rfl
      exact absurd e c.1
    · exact ⟨L, q1, q2, (lk_last hN q1 q2 q3).symm, c.2, q3⟩
  · exact absurd (if_neg c) h
theorem lk_free (hN : SN S nT nC nD nM nZ) (hG : GI S nT nC nM) (h : lockV S r = -1) {k : Nat} (hk : k < nC) (hr : onR S r k) : ¬ actP S (S 4 k) := fun ha => hN.b1 hk ((lk_of hN hG hk hr ha).symm.trans h)
theorem lk_act (hN : SN S nT nC nD nM nZ) {t : Nat} (ht : t < 60) (h : lockV S r = nI t) : S 1 t = 0 := by
  obtain ⟨k, -, -, -, h1, -⟩ := lk_inv hN (r := r) (by rw [h]; exact nI_nm1 (by omega))
  rw [h] at h1
  unfold actP at h1
  rw [nvT ht] at h1
  exact h1
/-- a row that is not locked has its last version -/
theorem ver_now (hN : SN S nT nC nD nM nZ) (hG : GI S nT nC nM) {i : Nat} (hi : i < 12) (h : lockV S (nI i) = -1) : S 0 i = verV S (S 11 0) (nI i) := by
  rw [verV_e hN hi]
  rcases last_on S (nI i) nC with q | ⟨L, q1, q2, q3⟩
  · rw [verL_top nC (Nat.zero_le _) (fun k _ hk => q k hk)]
    rfl
  · rw [verL_top nC (show L + 1 ≤ nC by omega) q3]
    refine (verL_y q2 ?_).symm
    obtain ⟨t, ht, e⟩ := hN.by q1
    have h60 := hN.2.2.2.2.2.1
    have hM := hN.2.2.2.2.2.2.2.2.1
    have h1 := lk_free hN hG h q1 q2
    have h2 := hG.1 L q1 q2.2
    unfold actP at h1
    unfold comP
    rw [e, nvT (by omega)] at h1 h2 ⊢
    have h3 : S 1 t = 1 := ((hN.st (t := t) (by omega)).resolve_left h1).resolve_right h2
    obtain ⟨j, -, g2, g3⟩ := hN.ca ht h3
    refine ⟨h3, ?_⟩
    rw [g3, hN.2.2.2.1]
    exact nI_le g2 (by omega)
theorem ver_read (hN : SN S nT nC nD nM nZ) (hG : GI S nT nC nM) {t i : Nat} (ht : t < nT) (ha : S 1 t = 0) (hi : i < 12) : (vaV S m (nI i) (nI t)).1 = if lockV S (nI i) = nI t then S 0 i else verV S m (nI i) := by
  have h60 := hN.2.2.2.2.2.1
  by_cases c : lockV S (nI i) = nI t
  · rw [if_pos c]
    obtain ⟨L, q1, q2, q3, q4, q5⟩ := lk_inv hN (r := nI i) (by rw [c]; exact nI_nm1 (by omega))
    unfold vaV
    rw [hN.n13, nvR hi, vaL_top nC (show L + 1 ≤ nC by omega) q5, show vaL S m (nI i) (nI t) (L + 1) (S 0 i) 0 = (S 0 i, 0) from (if_pos q2).trans (if_pos (Or.inl (q3.trans c)))]
  · rw [if_neg c, verV_e hN hi]
    unfold vaV
    rw [hN.n13, nvR hi]
    refine vaL_ver nC _ _ (fun k hk hr e => c ?_)
    refine (lk_of hN hG hk hr ?_).trans e
    unfold actP
    rw [e, nvT (by omega)]
    exact ha
theorem late_D (hN : SN S nT nC nD nM nZ) {i : Nat} (hi : i < 12) (h : ¬ (vaV S m (nI i) t).2 = 0) : 0 < nD := by
  rw [vaV_olL hN.2.1 hN.2.2.1 hN.2.2.2.2.2.2.1 hN.2.2.2.2.2.2.2.1 hi] at h
  have := bI_t h
  omega
theorem verL_ok (hG : GI S nT nC nM) : ∀ (n : Nat) (v : Int32), n ≤ nC → vOK v → vOK (verL S m r n v)
  | 0, _, _, h => h
  | n + 1, v, hn, h => by
    by_cases c : onR S r n
    · by_cases d : comP S m n
      · rw [verL_y c d]; exact h
      · rw [verL_u c d]; exact verL_ok hG n _ (by omega) (hG.2.2.2.2.2.2.1 n (by omega))
    · rw [verL_n c]; exact verL_ok hG n _ (by omega) h
theorem ver_ok (hN : SN S nT nC nD nM nZ) (hG : GI S nT nC nM) {i : Nat} (hi : i < 12) : vOK (verV S m (nI i)) := by
  rw [verV_e hN hi]
  exact verL_ok hG nC _ (Nat.le_refl _) (hG.2.2.2.2.2.1 i hi)
end PV
