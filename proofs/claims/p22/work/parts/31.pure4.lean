/-! the class's world behind begin, write, commit, undo; the numbers behind each call -/
section PU4
variable {D : va_G} {S S' : St} {ad ad' : Nat → Nat} {w w' w1 : kWd} {nT nC nD nM nZ : Nat}
theorem stL_ag {t : Int32} : ∀ n : Nat, (∀ k, k < n → S' 4 k = S 4 k ∧ S' 7 k = S 7 k) → stL S' t n = stL S t n
  | 0, _ => rfl
  | n + 1, h => by
    show stL S' t n + bI (S' 4 n = t ∧ S' 7 n = 0) = stL S t n + bI (S 4 n = t ∧ S 7 n = 0)
    rw [stL_ag n (fun k hk => h k (by omega)), (h n (by omega)).1, (h n (by omega)).2]
theorem stL_z {t : Int32} : ∀ n : Nat, (∀ k, k < n → ¬ S 4 k = t) → stL S t n = 0
  | 0, _ => rfl
  | n + 1, h => by
    show stL S t n + bI (S 4 n = t ∧ S 7 n = 0) = 0
    rw [stL_z n (fun k hk => h k (by omega)), bI_0 (fun q => h n (by omega) q.1)]
    rfl
/-- a transaction's cell has changed, and of the state the components 1 and 3 there -/
theorem CW.upT (h : CW D S ad w nT nC) {t : Nat} (e : w1 = va_up w (tkey t) (some (tCell S' nC t))) (h1 : ∀ j, j ≠ t → S' 1 j = S 1 j) (h3 : ∀ j, j ≠ t → S' 3 j = S 3 j) (hc : ∀ c, c ≠ 1 → c ≠ 3 → S' c = S c) : CW D S' ad w1 nT nC := by
  have n : ∀ k, k ≠ tkey t → w1 k = w k := fun k hk => up_n e hk
  refine ⟨?_, ?_, ?_, h.lt.keep (n _ (by show _ ≠ 100 + _; omega)) (n _ (by show _ ≠ 100 + _; omega)) rfl (fun _ _ => rfl), h.lc.keep (n _ (by show _ ≠ 100 + _; omega)) (n _ (by show _ ≠ 100 + _; omega)) rfl (fun _ _ => rfl), fun b hb => ⟨(n _ (by show _ ≠ 100 + _; omega)).trans (h.b hb), ?_⟩, fun j hj => ?_, fun r hr => ?_, fun t' ht' => ?_, fun k hk => ?_⟩
  · rw [n 0 (by show _ ≠ 100 + _; omega), h.u]
    show some (uCell ad S) = some (uCell ad S')
    unfold uCell
    rw [hc 10 (by decide) (by decide), hc 11 (by decide) (by decide), hc 14 (by decide) (by decide), hc 15 (by decide) (by decide)]
  · rw [n 1 (by show _ ≠ 100 + _; omega)]; exact h.bs
  · rw [n 2 (by show _ ≠ 100 + _; omega)]; exact h.rs
  · rw [n (13 + b) (by show _ ≠ 100 + _; omega)]; exact h.sa hb
  · rw [n (16 + j) (by show _ ≠ 100 + _; omega), h.s hj]
    show some (sCell ad S j) = some (sCell ad S' j)
    unfold sCell hold
    rw [hc 8 (by decide) (by decide), hc 9 (by decide) (by decide)]
  · rw [n (24 + r) (by show _ ≠ 100 + _; omega), h.r hr]
    show some (rCell ad S r) = some (rCell ad S' r)
    unfold rCell
    rw [hc 0 (by decide) (by decide)]
  · by_cases q : t' = t
    · rw [q]; exact up_s e
    · rw [n (tkey t') (by show 100 + 2 * t' ≠ 100 + 2 * t; omega), h.t ht']
      show some (tCell S nC t') = some (tCell S' nC t')
      unfold tCell
      rw [stL_c (hc 4 (by decide) (by decide)) (hc 7 (by decide) (by decide)), h1 t' q, h3 t' q, hc 2 (by decide) (by decide)]
  · rw [n (ckey k) (by show 101 + 2 * k ≠ 100 + 2 * t; omega), h.c hk]
    show some (cCell ad S k) = some (cCell ad S' k)
    unfold cCell
    rw [hc 4 (by decide) (by decide), hc 5 (by decide) (by decide), hc 6 (by decide) (by decide), hc 7 (by decide) (by decide)]
/-- begin -/
abbrev bgM (S : St) : St := sS (sA S 2 (nv (S 12 0)) (S 11 0)) 12 (S 12 0 + 1)
theorem CW.bg (h : CW D S ad w nT nC) (hN : SN S nT nC nD nM nZ) (hT : nT < 60) (hl : AL D 3 5 (nT + 1) tkey ad' w') (ht : w' (tkey nT) = some (.inr (5, [.int (nI nT), .int (S 11 0), .int 1, .int (-1), .int 0])))
    (fw : ∀ k, k ≠ 3 → k ≠ 5 → k ≠ 7 → k ≠ tkey nT → w' k = w k) (fa : ∀ k, k ≠ 5 → k ≠ 7 → k ≠ tkey nT → ad' k = ad k) : CW D (bgM S) ad' w' (nT + 1) nC := by
  have hnv : nv (S 12 0) = nT := by rw [hN.1]; exact nv_nI (by omega)
  have a9 : ∀ k, k ≠ 5 → k ≠ 7 → k < 100 → ad' k = ad k := fun k h1 h2 h3 => fa k h1 h2 (by show _ ≠ 100 + _; omega)
  have w9 : ∀ k, k ≠ 3 → k ≠ 5 → k ≠ 7 → k < 100 → w' k = w k := fun k h0 h1 h2 h3 => fw k h0 h1 h2 (by show _ ≠ 100 + _; omega)
  have at9 : ∀ t, t < nT → ad' (tkey t) = ad (tkey t) := fun t ht => fa _ (by show 100 + _ ≠ _; omega) (by show 100 + _ ≠ _; omega) (by show 100 + 2 * t ≠ 100 + 2 * nT; omega)
  have ac9 : ∀ k, ad' (ckey k) = ad (ckey k) := fun k => fa _ (by show 101 + _ ≠ _; omega) (by show 101 + _ ≠ _; omega) (by show 101 + 2 * k ≠ 100 + 2 * nT; omega)
  have wc9 : ∀ k, w' (ckey k) = w (ckey k) := fun k => fw _ (by show 101 + _ ≠ _; omega) (by show 101 + _ ≠ _; omega) (by show 101 + _ ≠ _; omega) (by show 101 + 2 * k ≠ 100 + 2 * nT; omega)
  refine ⟨?_, ?_, ?_, hl, h.lc.keep (w9 4 (by decide) (by decide) (by decide) (by decide)) (w9 6 (by decide) (by decide) (by decide) (by decide)) (a9 6 (by decide) (by decide) (by decide)) (fun i _ => ac9 i), fun b hb => ⟨?_, ?_⟩, fun j hj => ?_, fun r hr => ?_, fun t ht' => ?_, fun k hk => ?_⟩
  · rw [w9 0 (by decide) (by decide) (by decide) (by decide), h.u]
    show some (uCell ad S) = (some (.inr (6, [.ref (ad' 1), .ref (ad' 2), .ref (ad' 3), .ref (ad' 4), .int (S 10 0), .int (S 11 0), .int (S 15 0), .int (S 14 0)])) : Option va_E)
    rw [a9 1 (by decide) (by decide) (by decide), a9 2 (by decide) (by decide) (by decide), a9 3 (by decide) (by decide) (by decide), a9 4 (by decide) (by decide) (by decide)]
  · obtain ⟨f, g1, g2⟩ := h.bs
    exact ⟨f, (w9 1 (by decide) (by decide) (by decide) (by decide)).trans g1, fun i hi => by rw [g2 i hi, a9 (10 + i) (by omega) (by omega) (by omega)]⟩
  · obtain ⟨f, g1, g2⟩ := h.rs
    exact ⟨f, (w9 2 (by decide) (by decide) (by decide) (by decide)).trans g1, fun i hi => by rw [g2 i hi, a9 (24 + i) (by omega) (by omega) (by omega)]⟩
  · rw [w9 (10 + b) (by omega) (by omega) (by omega) (by omega), h.b hb, a9 (13 + b) (by omega) (by omega) (by omega)]
  · obtain ⟨f, g1, g2⟩ := h.sa hb
    exact ⟨f, (w9 (13 + b) (by omega) (by omega) (by omega) (by omega)).trans g1, fun i hi => by rw [g2 i hi, a9 (16 + (2 * b + i)) (by omega) (by omega) (by omega)]⟩
  · rw [w9 (16 + j) (by omega) (by omega) (by omega) (by omega), h.s hj]
    show some (sCell ad S j) = (some (.inr (4, [va_rf (hold ad' S j), .int (S 9 j)])) : Option va_E)
    rw [show hold ad' S j = hold ad S j from by
      rcases hN.sl hj with q | ⟨t, ht, q⟩
      · rw [hold_n q, hold_n q]
      · rw [hold_s q (by omega), hold_s q (by omega), at9 t ht]]
  · rw [w9 (24 + r) (by omega) (by omega) (by omega) (by omega), h.r hr]
    show some (rCell ad S r) = (some (.inr (3, [.ref (ad' (10 + r / 4)), .int (S 0 r)])) : Option va_E)
    rw [a9 (10 + r / 4) (by omega) (by omega) (by omega)]
  · show w' _ = (some (.inr (5, [.int (nI t), .int (upd (S 2) (nv (S 12 0)) (S 11 0) t), .int (bI (S 1 t = 0)), .int (if S 1 t = 1 then S 3 t else -1), .int (stL (bgM S) (nI t) nC)])) : Option va_E)
    rw [stL_c (S := S) (S' := bgM S) rfl rfl, hnv]
    by_cases c : t = nT
    · subst c
      rw [upd_s, ht, hN.s0 (Nat.le_refl t), stL_z nC (fun k hk q => by obtain ⟨u, hu, h4⟩ := hN.by hk; exact absurd ((nI_eq (a := u) (b := t) (by omega) (by omega)).mp (h4.symm.trans q)) (by omega))]
      rfl
    · rw [upd_n c, fw (tkey t) (by show 100 + _ ≠ _; omega) (by show 100 + _ ≠ _; omega) (by show 100 + _ ≠ _; omega) (by show 100 + 2 * t ≠ 100 + 2 * nT; omega), h.t (show t < nT by omega)]
  · rw [wc9 k, h.c hk]
    show some (cCell ad S k) = (some (.inr (2, [.ref (ad' (tkey (nv (S 4 k)))), .ref (ad' (24 + nv (S 5 k))), .int (S 6 k), .int (S 7 k)])) : Option va_E)
    obtain ⟨t, ht, h4⟩ := hN.by hk
    obtain ⟨r, hr, h5⟩ := hN.ro hk
    unfold cCell
    rw [h4, h5, nv_nI (by omega), nv_nI (by omega), at9 t ht, a9 (24 + r) (by omega) (by omega) (by omega)]
theorem SN.bg (hN : SN S nT nC nD nM nZ) (hT : nT < 60) : SN (bgM S) (nT + 1) nC nD nM nZ := by
  have hnv : nv (S 12 0) = nT := by rw [hN.1]; exact nv_nI (by omega)
  obtain ⟨a1, a2, a3, a4, a5, a6, a7, a8, a9, a10, a11, a12, a13, a14, a15, a16, a17, a18, a19⟩ := hN
  refine ⟨?_, a2, a3, a4, a5, by omega, a7, a8, a9, a10, a11, a12, fun k hk => ⟨?_, (a13 k hk).2⟩, a14, fun i hi => ⟨?_, (a15 i hi).2⟩, a16, fun t ht => a17 t (by omega), fun t ht h1 => ?_, fun t ht => ?_⟩
  · show S 12 0 + 1 = nI (nT + 1)
    rw [a1]; exact nI_1 nT
  · obtain ⟨t, ht, q⟩ := (a13 k hk).1
    exact ⟨t, by omega, q⟩
  · rcases (a15 i hi).1 with q | ⟨t, ht, q⟩
    · exact Or.inl q
    · exact Or.inr ⟨t, by omega, q⟩
  · rcases Nat.lt_or_ge t nT with q | q
    · exact a18 t q h1
    · have h1' : S 1 t = 1 := h1
      rw [a17 t q] at h1'
      exact absurd h1' (by decide)
  · show ∃ j, j ≤ nM ∧ upd (S 2) (nv (S 12 0)) (S 11 0) t = nI j
    rw [hnv]
    by_cases c : t = nT
    · rw [c, upd_s, a4]; exact ⟨nM, Nat.le_refl _, rfl⟩
    · rw [upd_n c]; exact a19 t (by omega)
theorem SN.ss (hN : SN S nT nC nD nM nZ) {z : Nat} (h1 : 1 ≤ z) (h2 : z ≤ 30) (h3 : nC - nD ≤ z) : SN (sS S 10 (nI z)) nT nC nD nM z := by
  obtain ⟨a1, a2, a3, a4, a5, a6, a7, a8, a9, a10, a11, a12, a13⟩ := hN
  exact ⟨a1, a2, a3, a4, rfl, a6, a7, a8, a9, h1, h2, h3, a13⟩
/-- commit -/
abbrev cmM (S : St) (t : Nat) : St := sA (sA (sS S 11 (S 11 0 + 1)) 1 t 1) 3 t (S 11 0 + 1)
theorem SN.cm (hN : SN S nT nC nD nM nZ) {t : Nat} (ht : t < nT) (hM : nM < 512) : SN (cmM S t) nT nC nD (nM + 1) nZ := by
  obtain ⟨a1, a2, a3, a4, a5, a6, a7, a8, a9, a10, a11, a12, a13, a14, a15, a16, a17, a18, a19⟩ := hN
  refine ⟨a1, a2, a3, ?_, a5, a6, a7, a8, by omega, a10, a11, a12, a13, a14, a15, fun u hu => ?_, fun u hu => ?_, fun u hu h1 => ?_, fun u hu => ?_⟩
  · show S 11 0 + 1 = nI (nM + 1)
    rw [a4]; exact nI_1 nM
  · show upd (S 1) t 1 u = 0 ∨ upd (S 1) t 1 u = 1 ∨ upd (S 1) t 1 u = 2
    by_cases c : u = t
    · rw [c, upd_s]; exact Or.inr (Or.inl rfl)
    · rw [upd_n c]; exact a16 u hu
  · show upd (S 1) t 1 u = 0
    rw [upd_n (by omega)]; exact a17 u hu
  · show ∃ j, 1 ≤ j ∧ j ≤ nM + 1 ∧ upd (S 3) t (S 11 0 + 1) u = nI j
    by_cases c : u = t
    · rw [c, upd_s, a4]; exact ⟨nM + 1, by omega, Nat.le_refl _, nI_1 nM⟩
    · rw [upd_n c]
      have h1' : upd (S 1) t 1 u = 1 := h1
      rw [upd_n c] at h1'
      obtain ⟨j, q1, q2, q3⟩ := a18 u hu h1'
      exact ⟨j, q1, by omega, q3⟩
  · obtain ⟨j, q1, q2⟩ := a19 u hu
    exact ⟨j, by omega, q2⟩
/-- undone as a whole -/
theorem SN.ud (hN : SN S nT nC nD nM nZ) {t : Nat} (ht : t < nT) : SN (sA S 1 t 2) nT nC nD nM nZ := by
  obtain ⟨a1, a2, a3, a4, a5, a6, a7, a8, a9, a10, a11, a12, a13, a14, a15, a16, a17, a18, a19⟩ := hN
  refine ⟨a1, a2, a3, a4, a5, a6, a7, a8, a9, a10, a11, a12, a13, a14, a15, fun u hu => ?_, fun u hu => ?_, fun u hu h1 => ?_, a19⟩
  · show upd (S 1) t 2 u = 0 ∨ upd (S 1) t 2 u = 1 ∨ upd (S 1) t 2 u = 2
    by_cases c : u = t
    · rw [c, upd_s]; exact Or.inr (Or.inr rfl)
    · rw [upd_n c]; exact a16 u hu
  · show upd (S 1) t 2 u = 0
    rw [upd_n (by omega)]; exact a17 u hu
  · have h1' : upd (S 1) t 2 u = 1 := h1
    by_cases c : u = t
    · rw [c, upd_s] at h1'; exact absurd h1' (by decide)
    · rw [upd_n c] at h1'; exact a18 u hu h1'
/-- write's last part -/
abbrev wr4 (S : St) (n : Nat) (t r a v : Int32) : St := sA (sS (sA (sA (sA S 4 n t) 5 n r) 6 n a) 13 (S 13 0 + 1)) 0 (nv r) v
theorem CW.wr (h : CW D S ad w nT nC) (hN : SN S nT nC nD nM nZ) {t r : Nat} (ht : t < nT) (hr : r < 12) {v : Int32} (hl : AL D 4 6 (nC + 1) ckey ad' w') (hcc : w' (ckey nC) = some (.inr (2, [.ref (ad' (tkey t)), .ref (ad' (24 + r)), .int (S 0 r), .int 0])))
    (hrr : w' (24 + r) = some (.inr (3, [.ref (ad' (10 + r / 4)), .int v]))) (htt : w' (tkey t) = some (.inr (5, [.int (nI t), .int (S 2 t), .int (bI (S 1 t = 0)), .int (if S 1 t = 1 then S 3 t else -1), .int (stL S (nI t) nC + 1)])))
    (fw : ∀ k, k ≠ 4 → k ≠ 6 → k ≠ 7 → k ≠ ckey nC → k ≠ 24 + r → k ≠ tkey t → w' k = w k) (fa : ∀ k, k ≠ 6 → k ≠ 7 → k ≠ ckey nC → ad' k = ad k) : CW D (wr4 S nC (nI t) (nI r) (S 0 r) v) ad' w' nT (nC + 1) := by
  have h60 := hN.2.2.2.2.2.1
  have hnr : nv (nI r) = r := nv_nI (by omega)
  have a9 : ∀ k, k ≠ 6 → k ≠ 7 → k < 100 → ad' k = ad k := fun k h1 h2 h3 => fa k h1 h2 (by show _ ≠ 101 + _; omega)
  have w9 : ∀ k, k ≠ 4 → k ≠ 6 → k ≠ 7 → k < 100 → k ≠ 24 + r → w' k = w k := fun k h0 h1 h2 h3 h4 => fw k h0 h1 h2 (by show _ ≠ 101 + _; omega) h4 (by show _ ≠ 100 + _; omega)
  have at9 : ∀ t, ad' (tkey t) = ad (tkey t) := fun t => fa _ (by show 100 + _ ≠ _; omega) (by show 100 + _ ≠ _; omega) (by show 100 + 2 * t ≠ 101 + 2 * nC; omega)
  have ac9 : ∀ k, k < nC → ad' (ckey k) = ad (ckey k) := fun k hk => fa _ (by show 101 + _ ≠ _; omega) (by show 101 + _ ≠ _; omega) (by show 101 + 2 * k ≠ 101 + 2 * nC; omega)
  refine ⟨?_, ?_, ?_, h.lt.keep (w9 3 (by decide) (by decide) (by decide) (by decide) (by omega)) (w9 5 (by decide) (by decide) (by decide) (by decide) (by omega)) (a9 5 (by decide) (by decide) (by decide)) (fun i _ => at9 i), hl, fun b hb => ⟨?_, ?_⟩, fun j hj => ?_, fun r' hr' => ?_, fun t' ht' => ?_, fun k hk => ?_⟩
  · rw [w9 0 (by decide) (by decide) (by decide) (by decide) (by omega), h.u]
    show some (uCell ad S) = (some (.inr (6, [.ref (ad' 1), .ref (ad' 2), .ref (ad' 3), .ref (ad' 4), .int (S 10 0), .int (S 11 0), .int (S 15 0), .int (S 14 0)])) : Option va_E)
    rw [a9 1 (by decide) (by decide) (by decide), a9 2 (by decide) (by decide) (by decide), a9 3 (by decide) (by decide) (by decide), a9 4 (by decide) (by decide) (by decide)]
  · obtain ⟨f, g1, g2⟩ := h.bs
    exact ⟨f, (w9 1 (by decide) (by decide) (by decide) (by decide) (by omega)).trans g1, fun i hi => by rw [g2 i hi, a9 (10 + i) (by omega) (by omega) (by omega)]⟩
  · obtain ⟨f, g1, g2⟩ := h.rs
    exact ⟨f, (w9 2 (by decide) (by decide) (by decide) (by decide) (by omega)).trans g1, fun i hi => by rw [g2 i hi, a9 (24 + i) (by omega) (by omega) (by omega)]⟩
  · rw [w9 (10 + b) (by omega) (by omega) (by omega) (by omega) (by omega), h.b hb, a9 (13 + b) (by omega) (by omega) (by omega)]
  · obtain ⟨f, g1, g2⟩ := h.sa hb
    exact ⟨f, (w9 (13 + b) (by omega) (by omega) (by omega) (by omega) (by omega)).trans g1, fun i hi => by rw [g2 i hi, a9 (16 + (2 * b + i)) (by omega) (by omega) (by omega)]⟩
  · rw [w9 (16 + j) (by omega) (by omega) (by omega) (by omega) (by omega), h.s hj]
    show some (sCell ad S j) = (some (.inr (4, [va_rf (hold ad' S j), .int (S 9 j)])) : Option va_E)
    rw [show hold ad' S j = hold ad S j from by unfold hold; rw [at9]]
  · show w' _ = (some (.inr (3, [.ref (ad' (10 + r' / 4)), .int (upd (S 0) (nv (nI r)) v r')])) : Option va_E)
    rw [hnr]
    by_cases c : r' = r
    · rw [c, upd_s, hrr]
    · rw [upd_n c, w9 (24 + r') (by omega) (by omega) (by omega) (by omega) (by omega), h.r hr', a9 (10 + r' / 4) (by omega) (by omega) (by omega)]
  · show w' _ = (some (.inr (5, [.int (nI t'), .int (S 2 t'), .int (bI (S 1 t' = 0)), .int (if S 1 t' = 1 then S 3 t' else -1), .int (stL (wr4 S nC (nI t) (nI r) (S 0 r) v) (nI t') nC + bI (upd (S 4) nC (nI t) nC = nI t' ∧ S 7 nC = 0))])) : Option va_E)
    rw [stL_ag (S := S) (S' := wr4 S nC (nI t) (nI r) (S 0 r) v) nC (fun k hk => ⟨show upd (S 4) nC (nI t) k = S 4 k from upd_n (by omega), rfl⟩), upd_s]
    by_cases c : t' = t
    · subst c
      rw [bI_1 (P := nI t' = nI t' ∧ S 7 nC = 0) ⟨rfl, hN.vn (Nat.le_refl _)⟩, htt]
    · rw [bI_0 (P := nI t = nI t' ∧ S 7 nC = 0) (fun q => c ((nI_eq (a := t) (b := t') (by omega) (by omega)).mp q.1).symm), Int32.add_zero, fw (tkey t') (by show 100 + _ ≠ _; omega) (by show 100 + _ ≠ _; omega) (by show 100 + _ ≠ _; omega) (by show 100 + 2 * t' ≠ 101 + 2 * nC; omega) (by show 100 + _ ≠ _; omega) (by show 100 + 2 * t' ≠ 100 + 2 * t; omega), h.t ht']
  · show w' _ = (some (.inr (2, [.ref (ad' (tkey (nv (upd (S 4) nC (nI t) k)))), .ref (ad' (24 + nv (upd (S 5) nC (nI r) k))), .int (upd (S 6) nC (S 0 r) k), .int (S 7 k)])) : Option va_E)
    by_cases c : k = nC
    · rw [c, upd_s, upd_s, upd_s, hcc, nv_nI (by omega), nv_nI (by omega), hN.vn (Nat.le_refl _)]
    · have hk2 : k < nC := by omega
      rw [upd_n c, upd_n c, upd_n c, fw (ckey k) (by show 101 + _ ≠ _; omega) (by show 101 + _ ≠ _; omega) (by show 101 + _ ≠ _; omega) (by show 101 + 2 * k ≠ 101 + 2 * nC; omega) (by show 101 + _ ≠ _; omega) (by show 101 + 2 * k ≠ 100 + 2 * t; omega), h.c hk2]
      obtain ⟨r9, hr9, h5⟩ := hN.ro hk2
      unfold cCell
      rw [at9, h5, nv_nI (by omega), a9 (24 + r9) (by omega) (by omega) (by omega)]
theorem SN.wr (hN : SN S nT nC nD nM nZ) {t r : Nat} (ht : t < nT) (hr : r < 12) (hC : nC < 512) (hz : nC + 1 - nD ≤ nZ) {a v : Int32} : SN (wr4 S nC (nI t) (nI r) a v) nT (nC + 1) nD nM nZ := by
  obtain ⟨a1, a2, a3, a4, a5, a6, a7, a8, a9, a10, a11, a12, a13, a14, a15⟩ := hN
  refine ⟨a1, ?_, a3, a4, a5, a6, by omega, by omega, a9, a10, a11, hz, fun k hk => ?_, fun k hk => a14 k (by omega), a15⟩
  · show S 13 0 + 1 = nI (nC + 1)
    rw [a2]; exact nI_1 nC
  · show (∃ u, u < nT ∧ upd (S 4) nC (nI t) k = nI u) ∧ (∃ q, q < 12 ∧ upd (S 5) nC (nI r) k = nI q) ∧ (S 7 k = 0 ∨ S 7 k = 1)
    by_cases c : k = nC
    · rw [c, upd_s, upd_s]
      exact ⟨⟨t, ht, rfl⟩, ⟨r, hr, rfl⟩, Or.inl (a14 nC (Nat.le_refl _))⟩
    · rw [upd_n c, upd_n c]; exact a13 k (by omega)
theorem SN.dr (hN : SN S nT nC nD nM nZ) {d : Nat} (h : nD + d ≤ nC) : SN (sS S 14 (S 14 0 + nI d)) nT nC (nD + d) nM nZ := by
  obtain ⟨a1, a2, a3, a4, a5, a6, a7, a8, a9, a10, a11, a12, a13⟩ := hN
  refine ⟨a1, a2, ?_, a4, a5, a6, a7, h, a9, a10, a11, by omega, a13⟩
  show S 14 0 + nI d = nI (nD + d)
  rw [a3]; exact nI_add nD d
end PU4
