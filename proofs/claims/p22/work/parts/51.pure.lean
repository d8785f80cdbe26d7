/-! the property behind undoing, cleaning, beginning, committing -/
section PW
variable {S S' : St} {m r t : Int32} {nT nC nD nM nZ : Nat}
theorem cmL_c (h : S' 1 = S 1) : ∀ n : Nat, cmL S' n = cmL S n
  | 0 => rfl
  | n + 1 => by
    show cmL S' n + (if S' 1 n = 1 then 1 else 0) = cmL S n + (if S 1 n = 1 then 1 else 0)
    rw [cmL_c h n, h]
theorem cmL_le : ∀ n : Nat, cmL S n ≤ n
  | 0 => Nat.le_refl 0
  | n + 1 => by
    show cmL S n + (if S 1 n = 1 then 1 else 0) ≤ n + 1
    have := cmL_le n
    split <;> omega
/-- one transaction's state has changed -/
theorem cmL_u {t x : Nat} {z : Int32} (h0 : S 1 t ≠ 1) (hx : x = if z = 1 then 1 else 0) : ∀ n : Nat, cmL (sA S 1 t z) n = cmL S n + (if t < n then x else 0)
  | 0 => by rw [if_neg (Nat.not_lt_zero t)]; rfl
  | n + 1 => by
    show cmL (sA S 1 t z) n + (if upd (S 1) t z n = 1 then 1 else 0) = cmL S n + (if S 1 n = 1 then 1 else 0) + _
    rw [cmL_u h0 hx n]
    by_cases c : n = t
    · subst c
      rw [upd_s, if_neg (Nat.lt_irrefl n), if_pos (Nat.lt_succ_self n), if_neg h0, ← hx]
    · rw [upd_n c]
      by_cases d : t < n
      · rw [if_pos d, if_pos (show t < n + 1 by omega)]; omega
      · rw [if_neg d, if_neg (show ¬ t < n + 1 by omega)]; omega
theorem cmL_lt {t : Nat} (h0 : S 1 t ≠ 1) : ∀ n : Nat, t < n → cmL S n < n
  | 0, h => absurd h (Nat.not_lt_zero t)
  | n + 1, h => by
    show cmL S n + (if S 1 n = 1 then 1 else 0) < n + 1
    by_cases c : n = t
    · subst c
      rw [if_neg h0]
      have := cmL_le (S := S) n
      omega
    · have := cmL_lt h0 n (by omega)
      split <;> omega
/-- the commits are fewer than the transactions while one is active -/
theorem GI.lt (hG : GI S nT nC nM) {t : Nat} (ht : t < nT) (ha : S 1 t = 0) : nM < nT := by
  rw [← hG.2.2.2.2.2.2.2]
  exact cmL_lt (t := t) (by rw [ha]; decide) nT ht
theorem GI.le (hG : GI S nT nC nM) : nM ≤ nT := by
  rw [← hG.2.2.2.2.2.2.2]
  exact cmL_le nT
theorem un1_0 {k j : Nat} (h : un1 S k 7 j = 0) : j ≠ k ∧ S 7 j = 0 := by
  have h1 : upd (S 7) k 1 j = 0 := h
  by_cases c : j = k
  · rw [c, upd_s] at h1; exact absurd h1 (by decide)
  · rw [upd_n c] at h1; exact ⟨c, h1⟩
theorem GI.uu (h : GI S nT nC nM) {k : Nat} (hk : k < nC) : GI (un1 S k) nT nC nM := by
  obtain ⟨h1, h2, h3, h4, h5, h6, h7, h8⟩ := h
  refine ⟨fun j hj q => h1 j hj (un1_0 q).2, fun i j hij hj q1 q2 => h2 i j hij hj (un1_0 q1).2 (un1_0 q2).2, fun j hj q => h3 j hj (un1_0 q).2, h4, h5, fun r hr => ?_, h7, ?_⟩
  · show vOK (upd (S 0) (nv (S 5 k)) (S 6 k) r)
    by_cases c : r = nv (S 5 k)
    · rw [c, upd_s]; exact h7 k hk
    · rw [upd_n c]; exact h6 r hr
  · exact (cmL_c (S := S) (S' := un1 S k) rfl nT).trans h8
theorem ver_un1 (hN : SN S nT nC nD nM nZ) (hG : GI S nT nC nM) {k : Nat} (hk : k < nC) (h7 : S 7 k = 0) (ha : actP S (S 4 k)) (htop : ∀ j, k + 1 ≤ j → j < nC → S 4 j = S 4 k → S 7 j ≠ 0) {i : Nat} (hi : i < 12) : verV (un1 S k) m (nI i) = verV S m (nI i) := by
  rw [verV_e hN hi, verV_e (hN.un hk) hi]
  show verL (un1 S k) m (nI i) nC (upd (S 0) (nv (S 5 k)) (S 6 k) i) = _
  obtain ⟨r0, hr0, e5⟩ := hN.ro hk
  rw [e5, nvR hr0]
  have hcg : ∀ (n : Nat) (v : Int32), n ≤ nC → (∀ j, j < n → j ≠ k ∨ r0 ≠ i) → verL (un1 S k) m (nI i) n v = verL S m (nI i) n v := fun n v hn hj => verL_cong n v (fun j q => by
    show (S 5 j = nI i ∧ upd (S 7) k 1 j = 0) ↔ (S 5 j = nI i ∧ S 7 j = 0)
    by_cases c : j = k
    · have := (hj j q).resolve_left (fun z => z c)
      subst c
      have e : ¬ S 5 j = nI i := fun z => this ((nI_eq (by omega) (by omega)).mp (e5.symm.trans z))
      exact ⟨fun z => absurd z.1 e, fun z => absurd z.1 e⟩
    · rw [upd_n c]) (fun j _ _ => ⟨rfl, Iff.rfl⟩)
  by_cases c : r0 = i
  · subst c
    have nst : ∀ j, k + 1 ≤ j → j < nC → ¬ onR S (nI r0) j := fun j a b q => htop j a b (hG.2.1 k j a b h7 q.2 (e5.trans q.1.symm) ha).symm q.2
    rw [upd_s, verL_top nC (show k ≤ nC by omega) (fun j a b q => by
      have z := un1_0 q.2
      exact nst j (by omega) b ⟨q.1, z.2⟩), verL_top nC (show k + 1 ≤ nC by omega) nst, verL_u ⟨e5, h7⟩ (fun q => by
      have h0 : S 1 (nv (S 4 k)) = 0 := ha
      rw [q.1] at h0
      exact absurd h0 (by decide))]
    exact hcg k _ (by omega) (fun j q => Or.inl (by omega))
  · rw [upd_n (Ne.symm c)]
    exact hcg nC _ (Nat.le_refl _) (fun j _ => Or.inr c)
theorem stN_le : ∀ n : Nat, stN S t n ≤ n
  | 0 => Nat.le_refl 0
  | n + 1 => by
    show stN S t n + (if S 4 n = t ∧ S 7 n = 0 then 1 else 0) ≤ n + 1
    have := stN_le n
    split <;> omega
theorem stL_N : ∀ n : Nat, stL S t n = nI (stN S t n)
  | 0 => rfl
  | n + 1 => by
    show stL S t n + bI (S 4 n = t ∧ S 7 n = 0) = nI (stN S t n + (if S 4 n = t ∧ S 7 n = 0 then 1 else 0))
    rw [stL_N n]
    by_cases c : S 4 n = t ∧ S 7 n = 0
    · rw [bI_1 c, if_pos c]; exact nI_1 _
    · rw [bI_0 c, if_neg c]; exact nI_add _ 0
theorem stN_un1 {k : Nat} (h7 : S 7 k = 0) (h4 : S 4 k = t) : ∀ n : Nat, stN (un1 S k) t n + (if k < n then 1 else 0) = stN S t n
  | 0 => by rw [if_neg (Nat.not_lt_zero k)]; rfl
  | n + 1 => by
    show stN (un1 S k) t n + (if S 4 n = t ∧ upd (S 7) k 1 n = 0 then 1 else 0) + _ = stN S t n + (if S 4 n = t ∧ S 7 n = 0 then 1 else 0)
    rw [← stN_un1 h7 h4 n]
    by_cases c : n = k
    · subst c
      rw [upd_s, if_neg (fun q => absurd q.2 (by decide)), if_neg (Nat.lt_irrefl n), if_pos (Nat.lt_succ_self n), if_pos ⟨h4, h7⟩]
    · rw [upd_n c]
      by_cases d : k < n
      · rw [if_pos d, if_pos (show k < n + 1 by omega)]; omega
      · rw [if_neg d, if_neg (show ¬ k < n + 1 by omega)]; omega
theorem stN_0 : ∀ n : Nat, stN S t n = 0 → ∀ k, k < n → S 4 k = t → S 7 k ≠ 0
  | 0, _, k, hk, _ => absurd hk (Nat.not_lt_zero k)
  | n + 1, h, k, hk, e => by
    have h' : stN S t n + (if S 4 n = t ∧ S 7 n = 0 then 1 else 0) = 0 := h
    by_cases c : k = n
    · subst c
      intro q
      rw [if_pos ⟨e, q⟩] at h'
      omega
    · exact stN_0 n (by omega) k (by omega) e
theorem stN_top {n0 : Nat} : ∀ n : Nat, n0 ≤ n → (∀ k, n0 ≤ k → k < n → S 4 k = t → S 7 k ≠ 0) → stN S t n = stN S t n0
  | 0, h, _ => by rw [show n0 = 0 by omega]
  | n + 1, h, g => by
    by_cases c : n0 = n + 1
    · rw [c]
    · show stN S t n + (if S 4 n = t ∧ S 7 n = 0 then 1 else 0) = _
      rw [if_neg (fun q => g n (by omega) (by omega) q.1 q.2)]
      exact stN_top n (by omega) (fun k h1 h2 => g k h1 (by omega))
theorem unL_z : ∀ (n : Nat) (S : St), unL t n (nI 0) S = S
  | 0, _ => rfl
  | n + 1, S => if_neg (by decide)
theorem unL_p {n y : Nat} (hy : y + 1 < 2 ^ 31) (c : S 4 n = t ∧ S 7 n = 0) : unL t (n + 1) (nI (y + 1)) S = unL t n (nI y) (un1 S n) := by
  rw [show unL t (n + 1) (nI (y + 1)) S = unL t n (nI (y + 1) - 1) (un1 S n) from (if_pos (show (0 : Int32) < nI (y + 1) from nI_lt (a := 0) (by omega) hy)).trans (if_pos c), nI_pred]
theorem unL_q {n y : Nat} (hy : y + 1 < 2 ^ 31) (c : ¬ (S 4 n = t ∧ S 7 n = 0)) : unL t (n + 1) (nI (y + 1)) S = unL t n (nI (y + 1)) S :=
  (if_pos (show (0 : Int32) < nI (y + 1) from nI_lt (a := 0) (by omega) hy)).trans (if_neg c)
/-- undoing the latest changes of an active transaction: the property stands, no version is another -/
theorem un_all : ∀ (n z : Nat) (S : St), n ≤ nC → z ≤ stN S t n → SN S nT nC nD nM nZ → GI S nT nC nM → actP S t → (∀ j, n ≤ j → j < nC → S 4 j = t → S 7 j ≠ 0) →
    GI (unL t n (nI z) S) nT nC nM ∧ (∀ (m : Int32) (i : Nat), i < 12 → verV (unL t n (nI z) S) m (nI i) = verV S m (nI i)) ∧ stN (unL t n (nI z) S) t nC + z = stN S t nC
  | n, 0, S, _, _, _, hG, _, _ => by
    rw [unL_z n S]
    exact ⟨hG, fun _ _ _ => rfl, rfl⟩
  | 0, z + 1, S, _, hz, _, _, _, _ => absurd hz (Nat.not_succ_le_zero z)
  | n + 1, z + 1, S, hn, hz, hN, hG, ha, htop => by
    have h512 := hN.2.2.2.2.2.2.1
    have hl := stN_le (S := S) (t := t) (n + 1)
    have hz' : z + 1 ≤ stN S t n + (if S 4 n = t ∧ S 7 n = 0 then 1 else 0) := hz
    by_cases c : S 4 n = t ∧ S 7 n = 0
    · rw [unL_p (by omega) c]
      rw [if_pos c] at hz'
      have e1 := stN_un1 (t := t) c.2 c.1 n
      rw [if_neg (Nat.lt_irrefl n)] at e1
      have e2 := stN_un1 (t := t) c.2 c.1 nC
      rw [if_pos (show n < nC by omega)] at e2
      obtain ⟨g1, g2, g3⟩ := un_all n z (un1 S n) (by omega) (by omega) (hN.un (by omega)) (hG.uu (by omega)) ha (fun j a b q => by
        show upd (S 7) n 1 j ≠ 0
        by_cases d : j = n
        · rw [d, upd_s]; decide
        · rw [upd_n d]; exact htop j (by omega) b q)
      refine ⟨g1, fun m i hi => (g2 m i hi).trans (ver_un1 hN hG (by omega) c.2 (by rw [c.1]; exact ha) (fun j a b q => htop j a b (q.trans c.1)) hi), by omega⟩
    · rw [unL_q (by omega) c]
      rw [if_neg c] at hz'
      exact un_all n (z + 1) S (by omega) (by omega) hN hG ha (fun j a b q => by
        by_cases d : j = n
        · intro z9
          subst d
          exact c ⟨q, z9⟩
        · exact htop j (by omega) b q)
theorem un_S (hN : SN S nT nC nD nM nZ) (hG : GI S nT nC nM) (ha : actP S t) {z : Nat} (hz : z ≤ stN S t nC) : GI (unS S t (nI z)) nT nC nM ∧ (∀ (m : Int32) (i : Nat), i < 12 → verV (unS S t (nI z)) m (nI i) = verV S m (nI i)) ∧ stN (unS S t (nI z)) t nC + z = stN S t nC := by
  unfold unS
  rw [hN.n13]
  exact un_all nC z S (Nat.le_refl _) hz hN hG ha (fun j a b => by omega)
theorem stV_N (hN : SN S nT nC nD nM nZ) : stV S t = nI (stN S t nC) := by
  unfold stV
  rw [hN.n13]
  exact stL_N nC
theorem act_u {t : Nat} {z x : Int32} (ht : nv x ≠ t) : actP (sA S 1 t z) x ↔ actP S x := by
  show upd (S 1) t z (nv x) = 0 ↔ _
  rw [upd_n ht]
/-- undone as a whole -/
theorem GI.ud (hN : SN S nT nC nD nM nZ) (h : GI S nT nC nM) {t : Nat} (ht : t < nT) (ha : S 1 t = 0) (hs : ∀ k, k < nC → S 4 k = nI t → S 7 k ≠ 0) : GI (sA S 1 t 2) nT nC nM := by
  obtain ⟨h1, h2, h3, h4, h5, h6, h7, h8⟩ := h
  have h60 := hN.2.2.2.2.2.1
  have hne : ∀ k, k < nC → S 7 k = 0 → nv (S 4 k) ≠ t := fun k hk q z => by
    obtain ⟨u, hu, e⟩ := hN.by hk
    rw [e, nvT (by omega)] at z
    exact hs k hk (by rw [e, z]) q
  refine ⟨fun k hk q => ?_, fun i k hik hk q1 q2 q3 q4 => ?_, fun k hk q1 q2 => ?_, fun i hi q => ⟨(h4 i hi q).1, fun z => ?_⟩, h5, h6, h7, ?_⟩
  · show upd (S 1) t 2 (nv (S 4 k)) ≠ 2
    rw [upd_n (hne k hk q)]
    exact h1 k hk q
  · exact h2 i k hik hk q1 q2 q3 ((act_u (hne i (by omega) q1)).mp q4)
  · exact h3 k hk q1 ((act_u (hne k hk q1)).mp q2)
  · by_cases c : nv (S 8 i) = t
    · have z' : upd (S 1) t 2 (nv (S 8 i)) = 0 := z
      rw [c, upd_s] at z'
      exact absurd z' (by decide)
    · exact (h4 i hi q).2 ((act_u c).mp z)
  · rw [cmL_u (x := 0) (by rw [ha]; decide) (by decide) nT]
    split <;> omega
theorem ver_ud (hN : SN S nT nC nD nM nZ) {t : Nat} (ht : t < nT) (ha : S 1 t = 0) {i : Nat} (hi : i < 12) : verV (sA S 1 t 2) m (nI i) = verV S m (nI i) := by
  rw [verV_e hN hi, verV_e (hN.ud ht) hi]
  refine verL_cong nC _ (fun k _ => Iff.rfl) (fun k _ _ => ⟨rfl, ?_⟩)
  show (upd (S 1) t 2 (nv (S 4 k)) = 1 ∧ S 3 (nv (S 4 k)) ≤ m) ↔ _
  by_cases c : nv (S 4 k) = t
  · unfold comP
    rw [c, upd_s, ha]
    exact ⟨fun q => absurd q.1 (by decide), fun q => absurd q.1 (by decide)⟩
  · rw [upd_n c]
/-- committed -/
theorem GI.cm (hN : SN S nT nC nD nM nZ) (h : GI S nT nC nM) {t : Nat} (ht : t < nT) (ha : S 1 t = 0) : GI (cmM S t) nT nC (nM + 1) := by
  obtain ⟨h1, h2, h3, h4, h5, h6, h7, h8⟩ := h
  have au : ∀ x, actP (cmM S t) x → actP S x := fun x q => by
    have q' : upd (S 1) t 1 (nv x) = 0 := q
    by_cases c : nv x = t
    · rw [c, upd_s] at q'; exact absurd q' (by decide)
    · rw [upd_n c] at q'; exact q'
  refine ⟨fun k hk q => ?_, fun i k hik hk q1 q2 q3 q4 => h2 i k hik hk q1 q2 q3 (au _ q4), fun k hk q1 q2 => h3 k hk q1 (au _ q2), fun i hi q => ⟨(h4 i hi q).1, fun z => (h4 i hi q).2 (au _ z)⟩, h5, h6, h7, ?_⟩
  · show upd (S 1) t 1 (nv (S 4 k)) ≠ 2
    by_cases c : nv (S 4 k) = t
    · rw [c, upd_s]; decide
    · rw [upd_n c]; exact h1 k hk q
  · rw [show cmL (cmM S t) nT = cmL (sA S 1 t 1) nT from cmL_c (S := sA S 1 t 1) (S' := cmM S t) rfl nT, cmL_u (x := 1) (by rw [ha]; decide) rfl nT, if_pos ht, h8]
theorem cmM_com (hN : SN S nT nC nD nM nZ) {t : Nat} (ht : t < nT) (ha : S 1 t = 0) {k a b : Nat} (hk : k < nC) (hne : S 4 k = nI t → ¬ nI (nM + 1) ≤ nI b) (hab : a = b ∨ a = nM ∧ b = nM + 1) (ha9 : a ≤ nM) : comP (cmM S t) (nI b) k ↔ comP S (nI a) k := by
  have h60 := hN.2.2.2.2.2.1
  have hM := hN.2.2.2.2.2.2.2.2.1
  obtain ⟨u, hu, e⟩ := hN.by hk
  show (upd (S 1) t 1 (nv (S 4 k)) = 1 ∧ upd (S 3) t (S 11 0 + 1) (nv (S 4 k)) ≤ nI b) ↔ (S 1 (nv (S 4 k)) = 1 ∧ S 3 (nv (S 4 k)) ≤ nI a)
  by_cases c : u = t
  · subst c
    have h9 := hne e
    rw [e, nvT (by omega), upd_s, upd_s, ha, hN.2.2.2.1, nI_1]
    exact ⟨fun q => absurd q.2 h9, fun q => absurd q.1 (by decide)⟩
  · rw [e, nvT (by omega), upd_n c, upd_n c]
    rcases hab with rfl | ⟨rfl, rfl⟩
    · exact Iff.rfl
    · constructor
      · rintro ⟨q, -⟩
        obtain ⟨j, -, g2, g3⟩ := hN.ca hu q
        exact ⟨q, by rw [g3]; exact nI_le g2 (by omega)⟩
      · rintro ⟨q, -⟩
        obtain ⟨j, -, g2, g3⟩ := hN.ca hu q
        exact ⟨q, by rw [g3]; exact nI_le (by omega) (by omega)⟩
theorem ver_cm0 (hN : SN S nT nC nD nM nZ) {t : Nat} (ht : t < nT) (ha : S 1 t = 0) {a : Nat} (ha9 : a ≤ nM) {i : Nat} (hi : i < 12) (hM9 : nM < 512) : verV (cmM S t) (nI a) (nI i) = verV S (nI a) (nI i) := by
  rw [verV_e hN hi, verV_e (hN.cm ht hM9) hi]
  exact verL_cong nC _ (fun k _ => Iff.rfl) (fun k hk _ => ⟨rfl, cmM_com hN ht ha hk (fun _ => nI_ge (by omega) (by omega)) (Or.inl rfl) ha9⟩)
theorem ver_cm1 (hN : SN S nT nC nD nM nZ) (hG : GI S nT nC nM) {t : Nat} (ht : t < nT) (ha : S 1 t = 0) {i : Nat} (hi : i < 12) (hM9 : nM < 512) : verV (cmM S t) (nI (nM + 1)) (nI i) = if lockV S (nI i) = nI t then S 0 i else verV S (S 11 0) (nI i) := by
  have h60 := hN.2.2.2.2.2.1
  rw [verV_e (hN.cm ht hM9) hi]
  by_cases c : lockV S (nI i) = nI t
  · rw [if_pos c]
    obtain ⟨L, q1, q2, q3, q4, q5⟩ := lk_inv hN (r := nI i) (by rw [c]; exact nI_nm1 (by omega))
    rw [verL_top (S := cmM S t) nC (show L + 1 ≤ nC by omega) q5]
    refine verL_y (S := cmM S t) q2 ?_
    show upd (S 1) t 1 (nv (S 4 L)) = 1 ∧ upd (S 3) t (S 11 0 + 1) (nv (S 4 L)) ≤ nI (nM + 1)
    rw [q3, c, nvT (by omega), upd_s, upd_s, hN.2.2.2.1, nI_1]
    exact ⟨rfl, nI_le (Nat.le_refl _) (by omega)⟩
  · rw [if_neg c, verV_e hN hi, hN.2.2.2.1]
    refine verL_cong nC _ (fun k _ => Iff.rfl) (fun k hk hr => ⟨rfl, cmM_com hN ht ha hk (fun e => absurd ((lk_of hN hG hk hr ?_).trans e) c) (Or.inr ⟨rfl, rfl⟩) (Nat.le_refl _)⟩)
    unfold actP
    rw [e, nvT (by omega)]
    exact ha
/-- begun -/
theorem GI.bg (hN : SN S nT nC nD nM nZ) (h : GI S nT nC nM) : GI (bgM S) (nT + 1) nC nM := by
  obtain ⟨h1, h2, h3, h4, h5, h6, h7, h8⟩ := h
  refine ⟨h1, h2, h3, h4, h5, h6, h7, ?_⟩
  show cmL (bgM S) nT + (if S 1 nT = 1 then 1 else 0) = nM
  rw [cmL_c (S := S) (S' := bgM S) rfl nT, h8, if_neg (by rw [hN.s0 (Nat.le_refl _)]; decide), Nat.add_zero]
theorem ver_bg : verV (bgM S) m r = verV S m r := verV_c rfl rfl rfl rfl rfl rfl rfl rfl
theorem ver_ss {z : Int32} : verV (sS S 10 z) m r = verV S m r := verV_c rfl rfl rfl rfl rfl rfl rfl rfl
theorem mk1_y {k : Nat} (h : endP S k) : mk1 S k = sA S 9 k 1 := if_pos h
theorem mk1_f {k : Nat} (h : ¬ endP S k) : mk1 S k = S := if_neg h
/-- cleaned -/
theorem cleanS_9 (S : St) (b i : Nat) : cleanS S b 9 i = if (i = 2 * b ∨ i = 2 * b + 1) ∧ endP S i then 1 else S 9 i := by
  rw [(cleanS_mk S b).1 9 (by decide)]
  show mk1 (mk1 S (2 * b)) (2 * b + 1) 9 i = _
  have e9 : mk1 S (2 * b) 9 (2 * b + 1) = S 9 (2 * b + 1) := by
    unfold mk1
    by_cases h : endP S (2 * b)
    · rw [if_pos h]; exact upd_n (by omega)
    · rw [if_neg h]
  have e1 : endP (mk1 S (2 * b)) (2 * b + 1) ↔ endP S (2 * b + 1) := by
    unfold endP actP
    rw [e9, mk1_n _ _ (show (8 : Nat) ≠ 9 by decide), mk1_n _ _ (show (1 : Nat) ≠ 9 by decide)]
  have e2 : ∀ j, mk1 S (2 * b) 9 j = if j = 2 * b ∧ endP S j then 1 else S 9 j := fun j => by
    unfold mk1
    by_cases h : endP S (2 * b)
    · rw [if_pos h]
      by_cases c : j = 2 * b
      · subst c; rw [if_pos ⟨rfl, h⟩]; exact upd_s
      · rw [if_neg (fun q => c q.1)]; exact upd_n c
    · rw [if_neg h, if_neg (fun q => h (by rw [← q.1]; exact q.2))]
  by_cases h : endP S (2 * b + 1)
  · rw [show mk1 (mk1 S (2 * b)) (2 * b + 1) 9 i = upd (mk1 S (2 * b) 9) (2 * b + 1) 1 i from by rw [mk1_y (e1.mpr h)]; rfl]
    by_cases c : i = 2 * b + 1
    · subst c; rw [upd_s, if_pos ⟨Or.inr rfl, h⟩]
    · rw [upd_n c, e2 i]
      by_cases d : i = 2 * b ∧ endP S i
      · rw [if_pos d, if_pos ⟨Or.inl d.1, d.2⟩]
      · rw [if_neg d, if_neg (fun q => q.1.elim (fun z => d ⟨z, q.2⟩) c)]
  · rw [show mk1 (mk1 S (2 * b)) (2 * b + 1) 9 i = mk1 S (2 * b) 9 i from by rw [mk1_f (fun q => h (e1.mp q))]]
    rw [e2 i]
    by_cases d : i = 2 * b ∧ endP S i
    · rw [if_pos d, if_pos ⟨Or.inl d.1, d.2⟩]
    · rw [if_neg d, if_neg (fun q => q.1.elim (fun z => d ⟨z, q.2⟩) (fun z => h (by rw [← z]; exact q.2)))]
def dyN (S : St) (b : Nat) : Int32 := bI (endP S (2 * b)) + bI (endP S (2 * b + 1))
theorem cleanS_15 (S : St) (b : Nat) : cleanS S b 15 0 = S 15 0 + dyN S b := by
  rw [(cleanS_mk S b).2]
  have e9 : mk1 S (2 * b) 9 (2 * b + 1) = S 9 (2 * b + 1) := by
    unfold mk1
    by_cases h : endP S (2 * b)
    · rw [if_pos h]; exact upd_n (by omega)
    · rw [if_neg h]
  have e1 : endP (mk1 S (2 * b)) (2 * b + 1) ↔ endP S (2 * b + 1) := by
    unfold endP actP
    rw [e9, mk1_n _ _ (show (8 : Nat) ≠ 9 by decide), mk1_n _ _ (show (1 : Nat) ≠ 9 by decide)]
  show S 15 0 + (bI (endP S (2 * b)) + (bI (endP (mk1 S (2 * b)) (2 * b + 1)) + 0)) = S 15 0 + (bI (endP S (2 * b)) + bI (endP S (2 * b + 1)))
  rw [Int32.add_zero]
  by_cases h : endP S (2 * b + 1)
  · rw [bI_1 h, bI_1 (e1.mpr h)]
  · rw [bI_0 h, bI_0 (fun q => h (e1.mp q))]
theorem clean_end (S : St) (b : Nat) {i : Nat} (hi : i = 2 * b ∨ i = 2 * b + 1) : ¬ endP (cleanS S b) i := by
  rintro ⟨q1, q2, q3⟩
  rw [cleanS_9] at q3
  have e8 : cleanS S b 8 = S 8 := cleanS_n S b (by decide) (by decide)
  have e1 : cleanS S b 1 = S 1 := cleanS_n S b (by decide) (by decide)
  unfold actP at q2
  rw [e8, e1] at q2
  rw [e8] at q1
  by_cases c : endP S i
  · rw [if_pos ⟨hi, c⟩] at q3
    exact absurd q3 (by decide)
  · rw [if_neg (fun q => c q.2)] at q3
    exact c ⟨q1, q2, q3⟩
theorem dyN_0 {b : Nat} (h0 : ¬ endP S (2 * b)) (h1 : ¬ endP S (2 * b + 1)) : dyN S b = 0 := by
  unfold dyN
  rw [bI_0 h0, bI_0 h1]
  rfl
theorem GI.cl (h : GI S nT nC nM) (b : Nat) : GI (cleanS S b) nT nC nM := by
  have e : ∀ c, c ≠ 9 → c ≠ 15 → cleanS S b c = S c := fun c a d => cleanS_n S b a d
  have e0 := e 0 (by decide) (by decide)
  have e1 := e 1 (by decide) (by decide)
  have e4 := e 4 (by decide) (by decide)
  have e5 := e 5 (by decide) (by decide)
  have e6 := e 6 (by decide) (by decide)
  have e7 := e 7 (by decide) (by decide)
  have e8 := e 8 (by decide) (by decide)
  obtain ⟨h1, h2, h3, h4, h5, h6, h7, h8⟩ := h
  unfold GI actP
  rw [e0, e1, e4, e5, e6, e7, e8]
  refine ⟨h1, h2, h3, fun i hi q => ?_, h5, h6, h7, (cmL_c e1 nT).trans h8⟩
  rw [cleanS_9] at q
  by_cases c : (i = 2 * b ∨ i = 2 * b + 1) ∧ endP S i
  · exact ⟨c.2.1, c.2.2.1⟩
  · rw [if_neg c] at q
    exact h4 i hi q
theorem ver_cl (b : Nat) : verV (cleanS S b) m r = verV S m r := by
  have e : ∀ c, c ≠ 9 → c ≠ 15 → cleanS S b c = S c := fun c a d => cleanS_n S b a d
  exact verV_c (e 0 (by decide) (by decide)) (e 1 (by decide) (by decide)) (e 3 (by decide) (by decide)) (e 4 (by decide) (by decide)) (e 5 (by decide) (by decide)) (e 6 (by decide) (by decide)) (e 7 (by decide) (by decide)) (e 13 (by decide) (by decide))
end PW
