/-! plain facts -/
theorem lkL_mem (S : St) (r : Int32) : ∀ n : Nat, lkL S r n = -1 ∨ ∃ k, k < n ∧ lkL S r n = S 4 k ∧ S 5 k = r ∧ S 7 k = 0
  | 0 => Or.inl rfl
  | n + 1 => by
    by_cases c : S 5 n = r ∧ S 7 n = 0
    · exact Or.inr ⟨n, Nat.lt_succ_self n, if_pos c, c.1, c.2⟩
    · have e : lkL S r (n + 1) = lkL S r n := if_neg c
      rcases lkL_mem S r n with h | ⟨k, h1, h2⟩
      · exact Or.inl (e.trans h)
      · exact Or.inr ⟨k, by omega, e.trans h2.1, h2.2⟩
theorem lkL_s {S : St} {r : Int32} {n : Nat} (c : S 5 n = r) (d : S 7 n = 0) : S 4 n = lkL S r (n + 1) := (if_pos ⟨c, d⟩).symm
theorem lkL_n {S : St} {r : Int32} {n : Nat} (c : ¬ (S 5 n = r ∧ S 7 n = 0)) : lkL S r n = lkL S r (n + 1) := (if_neg c).symm
theorem i_sub1 (x : Int32) : x + Int32.ofInt (-1) = x - 1 := by
  rw [Int32.sub_eq_add_neg]
  rfl
theorem nI_dn {n : Nat} : nI (n + 1) - 1 = nI n := nI_pred n
theorem nI_m1 : (nI 0 - 1 : Int32) < 0 := by decide
theorem nI_2 (b : Nat) : (2 : Int32) * nI b = nI (2 * b) := pk_mul 2 b
def cleanL : Nat → Nat → St → St
  | 0, _, S => S
  | d + 1, k, S => cleanL d (k + 1) (clean1 S k)
theorem cleanL_2 (S : St) (b : Nat) : cleanL 2 (2 * b) S = cleanS S b := rfl
def slL (S : St) (t : Int32) (lo : Nat) : Nat → Int32 → Int32 → Int32 × Int32
  | 0, o, f => (o, f)
  | j + 1, o, f => slL S t lo j (if S 8 (lo + j) = t then nI (lo + j) else o) (if freeP S (lo + j) then nI (lo + j) else f)
theorem slL_2 (S : St) (t : Int32) (b : Nat) : (if (slL S t (2 * b) 2 (-1) (-1)).1 = -1 then (slL S t (2 * b) 2 (-1) (-1)).2 else (slL S t (2 * b) 2 (-1) (-1)).1) = slF S t b := rfl
theorem stL_le (S : St) (t : Int32) : ∀ n : Nat, ∃ j, j ≤ n ∧ stL S t n = nI j
  | 0 => ⟨0, Nat.le_refl _, rfl⟩
  | n + 1 => by
    obtain ⟨j, h1, h2⟩ := stL_le S t n
    by_cases c : S 4 n = t ∧ S 7 n = 0
    · exact ⟨j + 1, by omega, by show stL S t n + bI _ = _; rw [h2, bI_1 c]; exact nI_1 j⟩
    · exact ⟨j, by omega, by show stL S t n + bI _ = _; rw [h2, bI_0 c]; exact nI_add j 0⟩
