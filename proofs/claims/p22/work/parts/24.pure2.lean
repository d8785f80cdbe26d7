/-! plain facts of the class's loops -/
def olL (S : St) (m r t : Int32) : Nat → Nat → Nat
  | 0, o => o
  | n + 1, o => if S 5 n = r ∧ S 7 n = 0 then (if seenP S m t n then o else olL S m r t n n) else olL S m r t n o
theorem olL_le (S : St) (m r t : Int32) : ∀ n o : Nat, n ≤ o → olL S m r t n o ≤ o
  | 0, o, _ => Nat.le_refl o
  | n + 1, o, h => by
    show (if S 5 n = r ∧ S 7 n = 0 then (if seenP S m t n then o else olL S m r t n n) else olL S m r t n o) ≤ o
    by_cases c : S 5 n = r ∧ S 7 n = 0
    · rw [if_pos c]
      by_cases d : seenP S m t n
      · rw [if_pos d]; exact Nat.le_refl o
      · rw [if_neg d]; exact Nat.le_trans (olL_le S m r t n n (Nat.le_refl n)) (by omega)
    · rw [if_neg c]; exact olL_le S m r t n o (by omega)
theorem vaL_olL {S : St} {m r t : Int32} {nC nD : Nat} (h14 : S 14 0 = nI nD) (hC : nC ≤ 512) (hD : nD ≤ nC) (v0 : Int32) : ∀ n o : Nat, n ≤ o → o ≤ nC →
    vaL S m r t n (if o < nC then S 6 o else v0) (bI (o < nD)) = ((if olL S m r t n o < nC then S 6 (olL S m r t n o) else v0), bI (olL S m r t n o < nD))
  | 0, o, _, _ => rfl
  | n + 1, o, h, ho => by
    show (if S 5 n = r ∧ S 7 n = 0 then (if seenP S m t n then _ else vaL S m r t n (S 6 n) (if bI (o < nD) = 0 then bI (nI n < S 14 0) else 1)) else vaL S m r t n _ _) = _
    by_cases c : S 5 n = r ∧ S 7 n = 0
    · have e : ∀ x : Nat, olL S m r t (n + 1) o = x ↔ (if seenP S m t n then o else olL S m r t n n) = x := fun x => by
        rw [show olL S m r t (n + 1) o = (if seenP S m t n then o else olL S m r t n n) from if_pos c]
      rw [if_pos c, show olL S m r t (n + 1) o = (if seenP S m t n then o else olL S m r t n n) from if_pos c]
      by_cases d : seenP S m t n
      · rw [if_pos d, if_pos d]
      · rw [if_neg d, if_neg d]
        have hz : (if bI (o < nD) = 0 then bI (nI n < S 14 0) else 1) = bI (n < nD) := by
          rw [h14]
          by_cases q : n < nD
          · rw [bI_1 q, bI_1 (nI_lt q (by omega))]
            by_cases z : bI (o < nD) = 0
            · rw [if_pos z]
            · rw [if_neg z]
          · rw [bI_0 q, bI_0 (show ¬ o < nD by omega), if_pos rfl, bI_0 (nI_nlt (by omega) (by omega))]
        rw [hz]
        have := vaL_olL h14 hC hD v0 (S := S) (m := m) (r := r) (t := t) n n (Nat.le_refl n) (by omega)
        rw [if_pos (show n < nC by omega)] at this
        exact this
    · rw [if_neg c, show olL S m r t (n + 1) o = olL S m r t n o from if_neg c]
      exact vaL_olL h14 hC hD v0 n o (by omega) ho
theorem vaV_olL {S : St} {m t : Int32} {r nC nD : Nat} (h13 : S 13 0 = nI nC) (h14 : S 14 0 = nI nD) (hC : nC ≤ 512) (hD : nD ≤ nC) (hr : r < 12) :
    vaV S m (nI r) t = ((if olL S m (nI r) t nC nC < nC then S 6 (olL S m (nI r) t nC nC) else S 0 r), bI (olL S m (nI r) t nC nC < nD)) := by
  have h := vaL_olL (m := m) (r := nI r) (t := t) h14 hC hD (S 0 r) nC nC (Nat.le_refl _) (Nat.le_refl _)
  rw [if_neg (Nat.lt_irrefl _), bI_0 (show ¬ nC < nD by omega)] at h
  unfold vaV
  rw [h13, nv_nI (by omega), nv_nI (by omega)]
  exact h
def mk1 (S : St) (k : Nat) : St := if endP S k then sA S 9 k 1 else S
def mkL : Nat → Nat → St → St
  | 0, _, S => S
  | d + 1, k, S => mkL d (k + 1) (mk1 S k)
def mkN : Nat → Nat → St → Int32
  | 0, _, _ => 0
  | d + 1, k, S => bI (endP S k) + mkN d (k + 1) (mk1 S k)
theorem mk1_c (S : St) (k : Nat) : (∀ c, c ≠ 15 → clean1 S k c = mk1 S k c) ∧ clean1 S k 15 0 = S 15 0 + bI (endP S k) := by
  unfold clean1 mk1
  by_cases h : endP S k
  · rw [if_pos h, if_pos h, bI_1 h]
    exact ⟨fun c hc => sU_n hc, rfl⟩
  · rw [if_neg h, if_neg h, bI_0 h]
    exact ⟨fun c _ => rfl, (Int32.add_zero _).symm⟩
theorem mk1_n (S : St) (k : Nat) {c : Nat} (hc : c ≠ 9) : mk1 S k c = S c := by
  unfold mk1
  by_cases h : endP S k
  · rw [if_pos h]; exact sU_n hc
  · rw [if_neg h]
theorem endP_c {S T : St} (h8 : T 8 = S 8) (h1 : T 1 = S 1) (h9 : T 9 = S 9) (k : Nat) : endP T k ↔ endP S k := by
  unfold endP actP
  rw [h8, h1, h9]
theorem cleanS_mk (S : St) (b : Nat) : (∀ c, c ≠ 15 → cleanS S b c = mkL 2 (2 * b) S c) ∧ cleanS S b 15 0 = S 15 0 + mkN 2 (2 * b) S := by
  have h0 := mk1_c S (2 * b)
  have h1 := mk1_c (clean1 S (2 * b)) (2 * b + 1)
  have he := endP_c (h0.1 8 (by decide)) (h0.1 1 (by decide)) (h0.1 9 (by decide)) (2 * b + 1)
  have hb : bI (endP (clean1 S (2 * b)) (2 * b + 1)) = bI (endP (mk1 S (2 * b)) (2 * b + 1)) := by
    by_cases q : endP (mk1 S (2 * b)) (2 * b + 1)
    · rw [bI_1 q, bI_1 (he.mpr q)]
    · rw [bI_0 q, bI_0 (fun z => q (he.mp z))]
  constructor
  · intro c hc
    show clean1 (clean1 S (2 * b)) (2 * b + 1) c = mk1 (mk1 S (2 * b)) (2 * b + 1) c
    rw [h1.1 c hc]
    unfold mk1
    by_cases q : endP (mk1 S (2 * b)) (2 * b + 1)
    · have q' := he.mpr q
      unfold mk1 at q
      rw [if_pos q, if_pos q']
      have h9 := h0.1 9 (by decide)
      unfold mk1 at h9
      by_cases z : c = 9
      · subst z
        show sU _ 9 _ 9 = sU _ 9 _ 9
        rw [sU_s, sU_s, h9]
      · show sU _ 9 _ c = sU _ 9 _ c
        rw [sU_n z, sU_n z, h0.1 c hc]
        unfold mk1
        rfl
    · have q' := fun z => q (he.mp z)
      unfold mk1 at q
      rw [if_neg q, if_neg q', h0.1 c hc]
      unfold mk1
      rfl
  · show clean1 (clean1 S (2 * b)) (2 * b + 1) 15 0 = _
    rw [h1.2, h0.2, hb]
    show S 15 0 + bI (endP S (2 * b)) + bI (endP (mk1 S (2 * b)) (2 * b + 1)) = S 15 0 + (bI (endP S (2 * b)) + (bI (endP (mk1 S (2 * b)) (2 * b + 1)) + 0))
    rw [Int32.add_zero, Int32.add_assoc]
/-- the state behind the undoing of the change k -/
def un1 (S : St) (k : Nat) : St := sA (sA S 7 k 1) 0 (nv (S 5 k)) (S 6 k)
theorem un1_7 (S : St) (k : Nat) : un1 S k 7 = upd (S 7) k 1 := rfl
theorem upd_s {f : Nat → Int32} {k : Nat} {x : Int32} : upd f k x k = x := pk_us
theorem upd_n {f : Nat → Int32} {k j : Nat} {x : Int32} (h : j ≠ k) : upd f k x j = f j := pk_un h
theorem stL_un {S : St} {k : Nat} (h7 : S 7 k = 0) (t : Int32) : ∀ n : Nat, stL (un1 S k) t n = stL S t n - (if k < n ∧ S 4 k = t then 1 else 0)
  | 0 => by
    show (0 : Int32) = 0 - _
    rw [if_neg (fun q => absurd q.1 (Nat.not_lt_zero k))]
    rfl
  | n + 1 => by
    show stL (un1 S k) t n + bI (S 4 n = t ∧ upd (S 7) k 1 n = 0) = stL S t n + bI (S 4 n = t ∧ S 7 n = 0) - _
    rw [stL_un h7 t n]
    by_cases c : n = k
    · subst c
      rw [upd_s, if_neg (fun q => absurd q.1 (Nat.lt_irrefl n)), bI_0 (fun q => absurd q.2 (by decide))]
      by_cases d : S 4 n = t
      · rw [if_pos ⟨Nat.lt_succ_self n, d⟩, bI_1 ⟨d, h7⟩, Int32.sub_zero, Int32.add_zero, Int32.add_sub_cancel]
      · rw [if_neg (fun q => d q.2), bI_0 (fun q => d q.1), Int32.sub_zero, Int32.add_zero, Int32.sub_zero]
    · rw [upd_n c]
      by_cases d : k < n ∧ S 4 k = t
      · rw [if_pos d, if_pos ⟨by omega, d.2⟩, Int32.sub_eq_add_neg, Int32.sub_eq_add_neg, Int32.add_assoc, Int32.add_assoc, Int32.add_comm (-1)]
      · rw [if_neg d, if_neg (fun q => d ⟨by omega, q.2⟩), Int32.sub_zero, Int32.sub_zero]
theorem stL_top {S : St} {t : Int32} {n : Nat} : ∀ m : Nat, n ≤ m → (∀ k, n ≤ k → k < m → ¬ (S 4 k = t ∧ S 7 k = 0)) → stL S t m = stL S t n
  | 0, h, _ => by rw [show n = 0 by omega]
  | m + 1, h, hk => by
    by_cases c : n = m + 1
    · rw [c]
    · show stL S t m + bI (S 4 m = t ∧ S 7 m = 0) = _
      rw [bI_0 (hk m (by omega) (by omega)), Int32.add_zero]
      exact stL_top m (by omega) (fun k h1 h2 => hk k h1 (by omega))
