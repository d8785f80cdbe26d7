/-! more plain facts: slots, locks, numbers kept -/
theorem nI_ne_m1 {k : Nat} (h : k < 2 ^ 31) : ¬ (nI k = -1) := nI_nm1 h
def slO (ad : Nat → Nat) (S : St) (t : Int32) (b : Nat) : Option Nat := if slF S t b = -1 then none else some (ad (16 + nv (slF S t b)))
theorem slO_s {ad : Nat → Nat} {S : St} {t : Int32} {b k : Nat} (h : slF S t b = nI k) (hk : k < 6) : slO ad S t b = some (ad (16 + k)) := by
  unfold slO
  rw [h, if_neg (nI_nm1 (by omega)), nv_nI (by omega)]
theorem slO_n {ad : Nat → Nat} {S : St} {t : Int32} {b : Nat} (h : slF S t b = -1) : slO ad S t b = none := if_pos h
theorem slF_o0 {S : St} {t : Int32} {b : Nat} (hb : b < 3) (h : S 8 (2 * b) = t) : slF S t b = nI (2 * b) := by
  have e : ownK S t b = nI (2 * b) := if_pos h
  unfold slF
  rw [e, if_neg (nI_nm1 (by omega))]
theorem slF_o1 {S : St} {t : Int32} {b : Nat} (hb : b < 3) (h0 : ¬ S 8 (2 * b) = t) (h : S 8 (2 * b + 1) = t) : slF S t b = nI (2 * b + 1) := by
  have e : ownK S t b = nI (2 * b + 1) := (if_neg h0).trans (if_pos h)
  unfold slF
  rw [e, if_neg (nI_nm1 (by omega))]
theorem slF_o {S : St} {t : Int32} {b : Nat} (h0 : ¬ S 8 (2 * b) = t) (h : ¬ S 8 (2 * b + 1) = t) : slF S t b = freeK S b := if_pos ((if_neg h0).trans (if_neg h))
theorem slF_f0 {S : St} {t : Int32} {b : Nat} (h0 : ¬ S 8 (2 * b) = t) (h : ¬ S 8 (2 * b + 1) = t) (f : freeP S (2 * b)) : slF S t b = nI (2 * b) := (slF_o h0 h).trans (if_pos f)
theorem slF_f1 {S : St} {t : Int32} {b : Nat} (h0 : ¬ S 8 (2 * b) = t) (h : ¬ S 8 (2 * b + 1) = t) (f0 : ¬ freeP S (2 * b)) (f : freeP S (2 * b + 1)) : slF S t b = nI (2 * b + 1) := (slF_o h0 h).trans ((if_neg f0).trans (if_pos f))
theorem slF_fn {S : St} {t : Int32} {b : Nat} (h0 : ¬ S 8 (2 * b) = t) (h : ¬ S 8 (2 * b + 1) = t) (f0 : ¬ freeP S (2 * b)) (f : ¬ freeP S (2 * b + 1)) : slF S t b = -1 := (slF_o h0 h).trans ((if_neg f0).trans (if_neg f))
section SNs
variable {D : va_G} {S S' : St} {ad : Nat → Nat} {w w1 w2 w3 : kWd} {nT nC nD nM nZ : Nat}
theorem SN.u9 (h : SN S nT nC nD nM nZ) {k : Nat} {x : Int32} (hx : x = 0 ∨ x = 1) : SN (sA S 9 k x) nT nC nD nM nZ := by
  obtain ⟨a1, a2, a3, a4, a5, a6, a7, a8, a9, a10, a11, a12, a13, a14, a15, a16⟩ := h
  refine ⟨a1, a2, a3, a4, a5, a6, a7, a8, a9, a10, a11, a12, a13, a14, fun i hi => ⟨(a15 i hi).1, ?_⟩, a16⟩
  show upd (S 9) k x i = 0 ∨ upd (S 9) k x i = 1
  by_cases c : i = k
  · rw [c, upd_s]; exact hx
  · rw [upd_n c]; exact (a15 i hi).2
theorem SN.u8 (h : SN S nT nC nD nM nZ) {k : Nat} {t : Nat} (ht : t < nT) : SN (sA S 8 k (nI t)) nT nC nD nM nZ := by
  obtain ⟨a1, a2, a3, a4, a5, a6, a7, a8, a9, a10, a11, a12, a13, a14, a15, a16⟩ := h
  refine ⟨a1, a2, a3, a4, a5, a6, a7, a8, a9, a10, a11, a12, a13, a14, fun i hi => ⟨?_, (a15 i hi).2⟩, a16⟩
  show upd (S 8) k (nI t) i = -1 ∨ ∃ u, u < nT ∧ upd (S 8) k (nI t) i = nI u
  by_cases c : i = k
  · rw [c, upd_s]; exact Or.inr ⟨t, ht, rfl⟩
  · rw [upd_n c]; exact (a15 i hi).1
theorem SN.s15 (h : SN S nT nC nD nM nZ) {x : Int32} : SN (sS S 15 x) nT nC nD nM nZ := h
theorem SN.s16 (h : SN S nT nC nD nM nZ) {x : Int32} : SN (sS S 16 x) nT nC nD nM nZ := h
theorem SN.s17 (h : SN S nT nC nD nM nZ) {x : Int32} : SN (sS S 17 x) nT nC nD nM nZ := h
theorem SN.u0 (h : SN S nT nC nD nM nZ) {k : Nat} {x : Int32} : SN (sA S 0 k x) nT nC nD nM nZ := h
theorem SN.u7 (h : SN S nT nC nD nM nZ) {k : Nat} (hk : k < nC) : SN (sA S 7 k 1) nT nC nD nM nZ := by
  obtain ⟨a1, a2, a3, a4, a5, a6, a7, a8, a9, a10, a11, a12, a13, a14, a15, a16⟩ := h
  refine ⟨a1, a2, a3, a4, a5, a6, a7, a8, a9, a10, a11, a12, fun i hi => ⟨(a13 i hi).1, (a13 i hi).2.1, ?_⟩, fun i hi => ?_, a15, a16⟩
  · show upd (S 7) k 1 i = 0 ∨ upd (S 7) k 1 i = 1
    by_cases c : i = k
    · rw [c, upd_s]; exact Or.inr rfl
    · rw [upd_n c]; exact (a13 i hi).2.2
  · show upd (S 7) k 1 i = 0
    rw [upd_n (by omega)]; exact a14 i hi
theorem SN.un (h : SN S nT nC nD nM nZ) {k : Nat} (hk : k < nC) : SN (un1 S k) nT nC nD nM nZ := (h.u7 hk).u0
theorem SN.mk (h : SN S nT nC nD nM nZ) (k : Nat) : SN (mk1 S k) nT nC nD nM nZ := by
  unfold mk1
  by_cases c : endP S k
  · rw [if_pos c]; exact h.u9 (Or.inr rfl)
  · rw [if_neg c]; exact h
theorem SN.cl1 (h : SN S nT nC nD nM nZ) (k : Nat) : SN (clean1 S k) nT nC nD nM nZ := by
  unfold clean1
  by_cases c : endP S k
  · rw [if_pos c]; exact (h.u9 (Or.inr rfl)).s15
  · rw [if_neg c]; exact h
theorem SN.cl (h : SN S nT nC nD nM nZ) (b : Nat) : SN (cleanS S b) nT nC nD nM nZ := (h.cl1 _).cl1 _
theorem SN.unLoop {t : Int32} : ∀ (n : Nat) (z : Int32) (S : St), n ≤ nC → SN S nT nC nD nM nZ → SN (unL t n z S) nT nC nD nM nZ
  | 0, _, _, _, h => h
  | n + 1, z, S, hn, h => by
    show SN (if 0 < z then (if S 4 n = t ∧ S 7 n = 0 then unL t n (z - 1) (un1 S n) else unL t n z S) else S) nT nC nD nM nZ
    by_cases c : 0 < z
    · rw [if_pos c]
      by_cases d : S 4 n = t ∧ S 7 n = 0
      · rw [if_pos d]; exact SN.unLoop n _ _ (by omega) (h.un (by omega))
      · rw [if_neg d]; exact SN.unLoop n _ _ (by omega) h
    · rw [if_neg c]; exact h
theorem cleanS_n (S : St) (b : Nat) {c : Nat} (h9 : c ≠ 9) (h15 : c ≠ 15) : cleanS S b c = S c := by
  rw [(cleanS_mk S b).1 c h15]
  show mk1 (mk1 S (2 * b)) (2 * b + 1) c = S c
  rw [mk1_n _ _ h9, mk1_n _ _ h9]
/-- the lock is by somebody who is there -/
theorem lockV_of (h : SN S nT nC nD nM nZ) (r : Int32) : lockV S r = -1 ∨ ∃ t, t < nT ∧ lockV S r = nI t ∧ S 1 t = 0 := by
  have h60 := h.2.2.2.2.2.1
  have hnv : nv (S 13 0) = nC := by rw [h.2.1]; exact nv_nI (by have := h.2.2.2.2.2.2.1; omega)
  unfold lockV
  rw [hnv]
  by_cases c : lkL S r nC ≠ -1 ∧ actP S (lkL S r nC)
  · rw [if_pos c]
    rcases lkL_mem S r nC with q | ⟨k, hk, e, -⟩
    · exact absurd q c.1
    · obtain ⟨t, ht, h4⟩ := h.by hk
      refine Or.inr ⟨t, ht, e.trans h4, ?_⟩
      have := c.2
      unfold actP at this
      rw [e, h4, nv_nI (by omega)] at this
      exact this
  · rw [if_neg c]; exact Or.inl rfl
def lkO2 (ad : Nat → Nat) (S : St) (r : Int32) : Option Nat := if lockV S r = -1 then none else some (ad (tkey (nv (lockV S r))))
/-- a change is undone -/
theorem CW.un (h : CW D S ad w nT nC) (hT : nT ≤ 60) {k t r : Nat} (hk : k < nC) (h4 : S 4 k = nI t) (ht : t < 60) (h5 : S 5 k = nI r) (hr : r < 12) (h7 : S 7 k = 0)
    (e1 : w1 = va_up w (24 + r) (some (.inr (3, [.ref (ad (10 + r / 4)), .int (S 6 k)])))) (e2 : w2 = va_up w1 (ckey k) (some (.inr (2, [.ref (ad (tkey t)), .ref (ad (24 + r)), .int (S 6 k), .int 1]))))
    (e3 : w3 = va_up w2 (tkey t) (some (.inr (5, [.int (nI t), .int (S 2 t), .int (bI (S 1 t = 0)), .int (if S 1 t = 1 then S 3 t else -1), .int (stL S (nI t) nC - 1)])))) : CW D (un1 S k) ad w3 nT nC := by
  have n : ∀ j, j ≠ 24 + r → j ≠ ckey k → j ≠ tkey t → w3 j = w j := fun j a b c => (up_n e3 c).trans ((up_n e2 b).trans (up_n e1 a))
  have hnv5 : nv (S 5 k) = r := by rw [h5]; exact nv_nI (by omega)
  refine ⟨?_, ?_, ?_, h.lt.keep (n _ (by omega) (by show _ ≠ 101 + _; omega) (by show _ ≠ 100 + _; omega)) (n _ (by omega) (by show _ ≠ 101 + _; omega) (by show _ ≠ 100 + _; omega)) rfl (fun _ _ => rfl), h.lc.keep (n _ (by omega) (by show _ ≠ 101 + _; omega) (by show _ ≠ 100 + _; omega)) (n _ (by omega) (by show _ ≠ 101 + _; omega) (by show _ ≠ 100 + _; omega)) rfl (fun _ _ => rfl), fun b hb => ⟨(n _ (by omega) (by show _ ≠ 101 + _; omega) (by show _ ≠ 100 + _; omega)).trans (h.b hb), ?_⟩, fun j hj => ?_, fun r' hr' => ?_, fun t' ht' => ?_, fun k' hk' => ?_⟩
  · rw [n 0 (by omega) (by show _ ≠ 101 + _; omega) (by show _ ≠ 100 + _; omega), h.u]; rfl
  · rw [n 1 (by omega) (by show _ ≠ 101 + _; omega) (by show _ ≠ 100 + _; omega)]; exact h.bs
  · rw [n 2 (by omega) (by show _ ≠ 101 + _; omega) (by show _ ≠ 100 + _; omega)]; exact h.rs
  · rw [n (13 + b) (by omega) (by show _ ≠ 101 + _; omega) (by show _ ≠ 100 + _; omega)]; exact h.sa hb
  · rw [n (16 + j) (by omega) (by show _ ≠ 101 + _; omega) (by show _ ≠ 100 + _; omega), h.s hj]; rfl
  · show w3 _ = (some (.inr (3, [.ref (ad (10 + r' / 4)), .int (upd (S 0) (nv (S 5 k)) (S 6 k) r')])) : Option va_E)
    rw [hnv5]
    by_cases c : r' = r
    · subst c
      rw [upd_s, up_n e3 (by show _ ≠ 100 + _; omega), up_n e2 (by show _ ≠ 101 + _; omega), up_s e1]
    · rw [upd_n c, n (24 + r') (by omega) (by show _ ≠ 101 + _; omega) (by show _ ≠ 100 + _; omega), h.r hr']
  · show w3 _ = (some (.inr (5, [.int (nI t'), .int (S 2 t'), .int (bI (S 1 t' = 0)), .int (if S 1 t' = 1 then S 3 t' else -1), .int (stL (un1 S k) (nI t') nC)])) : Option va_E)
    rw [stL_un h7]
    by_cases c : t' = t
    · subst c
      rw [if_pos (show k < nC ∧ S 4 k = nI t' from ⟨hk, h4⟩), up_s e3]
    · rw [if_neg (show ¬ (k < nC ∧ S 4 k = nI t') from fun q => c ((nI_eq (a := t') (b := t) (by omega) (by omega)).mp (q.2.symm.trans h4))) , Int32.sub_zero, n (tkey t') (by show 100 + _ ≠ _; omega) (by show 100 + _ ≠ 101 + _; omega) (by show 100 + _ ≠ 100 + _; omega), h.t ht']
  · show w3 _ = (some (.inr (2, [.ref (ad (tkey (nv (S 4 k')))), .ref (ad (24 + nv (S 5 k'))), .int (S 6 k'), .int (upd (S 7) k 1 k')])) : Option va_E)
    by_cases c : k' = k
    · subst c
      rw [upd_s, up_n e3 (by show 101 + _ ≠ 100 + _; omega), up_s e2, h4, h5, nv_nI (by omega), nv_nI (by omega)]
    · rw [upd_n c, n (ckey k') (by show 101 + _ ≠ _; omega) (by show 101 + _ ≠ 101 + _; omega) (by show 101 + _ ≠ 100 + _; omega), h.c hk']
end SNs
