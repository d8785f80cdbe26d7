/-! what each call of the reference throws (K), answers (R), and the state after (N) -/
theorem sS_sS {S : St} {c : Nat} {a b : Int32} : sS (sS S c a) c b = sS S c b := by
  funext d
  by_cases h : d = c
  · subst h
    exact sU_s.trans sU_s.symm
  · exact ((sU_n h).trans (sU_n h)).trans (sU_n h).symm
def ssK (S : St) (z : Int32) : Int32 := if inP z 1 30 then (if S 13 0 - S 14 0 ≤ z then 0 else 2) else 1
def ssN (S : St) (z : Int32) : St := if ssK S z = 0 then sS (sS S 17 (ssK S z)) 10 z else sS S 17 (ssK S z)
def ssR (S : St) (z : Int32) : Int32 := if ssK S z = 0 then S 10 0 else 0
def bgK (S : St) : Int32 := if S 12 0 = 60 then 1 else 0
def bgN (S : St) : St := if bgK S = 0 then sS (sA (sS S 17 (bgK S)) 2 (nv (S 12 0)) (S 11 0)) 12 (S 12 0 + 1) else sS S 17 (bgK S)
def bgR (S : St) : Int32 := if bgK S = 0 then S 12 0 + 1 - 1 else 0
abbrev trP (S : St) (t : Int32) : Prop := inP t 0 (S 12 0 - 1)
def opK (S : St) (t : Int32) : Int32 := if trP S t then (if actP S t then 0 else 2) else 1
def saR (S : St) (t : Int32) : Int32 := if opK S t = 0 then stV (sS S 17 (opK S t)) t else 0
def utA (S : St) (t : Int32) : Int32 := stV (sS S 17 (opK S t)) t
def utK (S : St) (t k : Int32) : Int32 := if opK S t = 0 then (if inP k 0 (utA S t) then 0 else 3) else opK S t
def utN (S : St) (t k : Int32) : St := if utK S t k = 0 then unS (sS S 17 (utK S t k)) t (utA S t - k) else sS S 17 (utK S t k)
def utR (S : St) (t k : Int32) : Int32 := if utK S t k = 0 then utA S t - k else 0
def udN (S : St) (t : Int32) : St := if opK S t = 0 then sA (unS (sS S 17 (opK S t)) t (utA S t)) 1 (nv t) 2 else sS S 17 (opK S t)
def udR (S : St) (t : Int32) : Int32 := if opK S t = 0 then utA S t else 0
def cmN (S : St) (t : Int32) : St := if opK S t = 0 then sA (sA (sS (sS S 17 (opK S t)) 11 (S 11 0 + 1)) 1 (nv t) 1) 3 (nv t) (S 11 0 + 1) else sS S 17 (opK S t)
def cmR (S : St) (t : Int32) : Int32 := if opK S t = 0 then S 11 0 + 1 else 0
abbrev roP (r : Int32) : Prop := inP r 0 11
def noK (r : Int32) : Int32 := if roP r then 0 else 1
def noR (S : St) (r : Int32) : Int32 := if noK r = 0 then S 0 (nv r) else 0
def loR (S : St) (r : Int32) : Int32 := if noK r = 0 then lockV (sS S 17 (noK r)) r else 0
def vrK (S : St) (m r : Int32) : Int32 := if roP r then (if inP m 0 (S 11 0) then 0 else 2) else 1
def vrV (S : St) (m r t k : Int32) : Int32 × Int32 := vaV (sS S 17 k) m r t
def vrN (S : St) (m r : Int32) : St := if vrK S m r = 0 then sS (sS S 17 (vrK S m r)) 16 (vrV S m r (-1) (vrK S m r)).2 else sS S 17 (vrK S m r)
def vrR (S : St) (m r : Int32) : Int32 := if vrK S m r = 0 then (vrV S m r (-1) (vrK S m r)).1 else 0
abbrev slP (b k : Int32) : Prop := inP b 0 2 ∧ inP k 0 1
def soK (b k : Int32) : Int32 := if slP b k then 0 else 1
def soR (S : St) (b k : Int32) : Int32 := if soK b k = 0 then S 8 (nv (2 * b + k)) else 0
def imR (S : St) (b k : Int32) : Int32 := bI (soK b k = 0 ∧ S 9 (nv (2 * b + k)) ≠ 0)
/-- a read: K0 what is thrown ahead of it; then late or not -/
def rdL (S : St) (m r t k0 : Int32) : Int32 := (vrV S m r t k0).2
def rdK (S : St) (m r t k0 : Int32) : Int32 := if k0 = 0 then (if rdL S m r t k0 = 0 then 0 else 3) else k0
def rdN (S : St) (m r t k0 : Int32) : St := if k0 = 0 then (if rdL S m r t k0 = 0 then cleanS (sS (sS (sS S 17 k0) 16 (rdL S m r t k0)) 17 0) (nv r / 4) else sS (sS (sS S 17 k0) 16 (rdL S m r t k0)) 17 3) else sS S 17 k0
def rdR (S : St) (m r t k0 : Int32) : Int32 := if k0 = 0 then (if rdL S m r t k0 = 0 then (vrV S m r t k0).1 else 0) else 0
def r1K (S : St) (t r : Int32) : Int32 := if trP S t ∧ roP r then (if actP S t then 0 else 2) else 1
/-- write: what it needs -/
abbrev goodP (v : Int32) : Prop := inP v (-1000000) 1000000
abbrev canP (S : St) (t r v : Int32) : Prop := (trP S t ∧ roP r) ∧ goodP v ∧ actP S t
abbrev lkO (S : St) (t r : Int32) : Prop := lockV S r = -1 ∨ lockV S r = t
abbrev wrP (S : St) (t r v : Int32) : Prop := canP S t r v ∧ lkO S t r ∧ slF S t (nv r / 4) ≠ -1 ∧ spP S
def wrK (S : St) (t r v : Int32) : Int32 := if trP S t ∧ roP r then (if goodP v then (if wrP S t r v then 0 else 3) else 2) else 1
def wrM (S : St) (t r v : Int32) : St :=
  let q := slF S t (nv r / 4)
  let S1 := cleanS S (nv r / 4)
  let S2 := sA (sA S1 8 (nv q) t) 9 (nv q) 0
  let S3 := sS S2 14 (S 14 0 + bI (S 13 0 - S 14 0 = S 10 0))
  let S4 := sA (sA (sA S3 4 (nv (S 13 0)) t) 5 (nv (S 13 0)) r) 6 (nv (S 13 0)) (S 0 (nv r))
  sA (sS S4 13 (S 13 0 + 1)) 0 (nv r) v
def wrN (S : St) (t r v : Int32) : St := if wrK S t r v = 0 then wrM (sS S 17 (wrK S t r v)) t r v else sS S 17 (wrK S t r v)
def wrR (S : St) (t r v : Int32) : Int32 := if wrK S t r v = 0 then S 0 (nv r) else 0
theorem inP_T {t : Int32} {n : Nat} (hn : n ≤ 60) (h : inP t 0 (nI n - 1)) : ∃ j, j < n ∧ t = nI j := by
  obtain ⟨j, hj, e⟩ := nI_of h.1
  subst e
  refine ⟨j, ?_, rfl⟩
  cases n with
  | zero => exact absurd (Int32.lt_of_lt_of_le nI_m1 (nI_pos' hj)) h.2
  | succ n =>
    have h2 := h.2
    rw [nI_dn] at h2
    exact Nat.not_le.mp fun q => h2 (nI_lt (show n < j by omega) hj)
theorem inP_N {t : Int32} {n : Nat} (hn : n < 2 ^ 31) (h : inP t 0 (nI n)) : ∃ j, j ≤ n ∧ t = nI j := by
  obtain ⟨j, hj, e⟩ := nI_of h.1
  subst e
  exact ⟨j, Nat.not_lt.mp fun q => h.2 (nI_lt q hj), rfl⟩
theorem inP_of {n j : Nat} (hn : n < 2 ^ 31) (h : j ≤ n) : inP (nI j) 0 (nI n) := ⟨nI_pos (by omega), nI_nlt h hn⟩
theorem nv_nI {n : Nat} (h : n < 2 ^ 31) : nv (nI n) = n := nI_clamp h
