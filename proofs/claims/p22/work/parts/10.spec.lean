/-! the reference's state: S c k: component c at place k. 0 value, 1 state, 2 asOf, 3 committedAt, 4 by, 5 row, 6 ahead, 7 isVoid, 8 slot, 9 isEnded; 10 size, 11 moment, 12 transactions, 13 changes, 14 dropped, 15 marks, 16 isLate, 17 thrown (at place 0) -/
abbrev St : Type := Nat → Nat → Int32
def sU (S : St) (c : Nat) (f : Nat → Int32) : St := fun c' => if c' = c then f else S c'
def sS (S : St) (c : Nat) (x : Int32) : St := sU S c (fun _ => x)
def sA (S : St) (c k : Nat) (x : Int32) : St := sU S c (upd (S c) k x)
theorem sU_s {S : St} {c : Nat} {f : Nat → Int32} : sU S c f c = f := if_pos rfl
theorem sU_n {S : St} {c d : Nat} {f : Nat → Int32} (h : d ≠ c) : sU S c f d = S d := if_neg h
abbrev bI (P : Prop) [Decidable P] : Int32 := if P then 1 else 0
abbrev nv (x : Int32) : Nat := x.toNatClampNeg
/-! what the reference's methods answer and do -/
abbrev inP (n a b : Int32) : Prop := ¬ n < a ∧ ¬ b < n
abbrev actP (S : St) (t : Int32) : Prop := S 1 (nv t) = 0
def lkL (S : St) (r : Int32) : Nat → Int32
  | 0 => -1
  | n + 1 => if S 5 n = r ∧ S 7 n = 0 then S 4 n else lkL S r n
def lockV (S : St) (r : Int32) : Int32 := if lkL S r (nv (S 13 0)) ≠ -1 ∧ actP S (lkL S r (nv (S 13 0))) then lkL S r (nv (S 13 0)) else -1
abbrev endP (S : St) (k : Nat) : Prop := S 8 k ≠ -1 ∧ ¬ actP S (S 8 k) ∧ S 9 k = 0
def clean1 (S : St) (k : Nat) : St := if endP S k then sS (sA S 9 k 1) 15 (S 15 0 + 1) else S
def cleanS (S : St) (b : Nat) : St := clean1 (clean1 S (2 * b)) (2 * b + 1)
abbrev freeP (S : St) (k : Nat) : Prop := S 8 k = -1 ∨ ¬ actP S (S 8 k)
def ownK (S : St) (t : Int32) (b : Nat) : Int32 := if S 8 (2 * b) = t then nI (2 * b) else if S 8 (2 * b + 1) = t then nI (2 * b + 1) else -1
def freeK (S : St) (b : Nat) : Int32 := if freeP S (2 * b) then nI (2 * b) else if freeP S (2 * b + 1) then nI (2 * b + 1) else -1
def slF (S : St) (t : Int32) (b : Nat) : Int32 := if ownK S t b = -1 then freeK S b else ownK S t b
abbrev spP (S : St) : Prop := S 13 0 - S 14 0 < S 10 0 ∨ ¬ actP S (S 4 (nv (S 14 0)))
abbrev seenP (S : St) (m t : Int32) (k : Nat) : Prop := S 4 k = t ∨ (S 1 (nv (S 4 k)) = 1 ∧ S 3 (nv (S 4 k)) ≤ m)
/-- the reading loop: what is left of n changes; the value so far, whether it is late -/
def vaL (S : St) (m r t : Int32) : Nat → Int32 → Int32 → Int32 × Int32
  | 0, v, z => (v, z)
  | n + 1, v, z => if S 5 n = r ∧ S 7 n = 0 then (if seenP S m t n then (v, z) else vaL S m r t n (S 6 n) (if z = 0 then bI (nI n < S 14 0) else 1)) else vaL S m r t n v z
def vaV (S : St) (m r t : Int32) : Int32 × Int32 := vaL S m r t (nv (S 13 0)) (S 0 (nv r)) 0
def stL (S : St) (t : Int32) : Nat → Int32
  | 0 => 0
  | n + 1 => stL S t n + bI (S 4 n = t ∧ S 7 n = 0)
def stV (S : St) (t : Int32) : Int32 := stL S t (nv (S 13 0))
def unL (t : Int32) : Nat → Int32 → St → St
  | 0, _, S => S
  | n + 1, z, S => if 0 < z then (if S 4 n = t ∧ S 7 n = 0 then unL t n (z - 1) (sA (sA S 7 n 1) 0 (nv (S 5 n)) (S 6 n)) else unL t n z S) else S
def unS (S : St) (t z : Int32) : St := unL t (nv (S 13 0)) z S
theorem bI_t {P : Prop} [Decidable P] (h : ¬ bI P = 0) : P := by
  by_cases c : P
  · exact c
  · exact absurd (if_neg c) h
theorem bI_f {P : Prop} [Decidable P] (h : bI P = 0) : ¬ P := by
  intro c
  rw [show bI P = 1 from if_pos c] at h
  exact absurd h (by decide)
theorem bI_01 {P : Prop} [Decidable P] : bI P = 0 ∨ bI P = 1 := by
  by_cases c : P
  · exact Or.inr (if_pos c)
  · exact Or.inl (if_neg c)
theorem bI_1 {P : Prop} [Decidable P] (h : P) : bI P = 1 := if_pos h
theorem bI_0 {P : Prop} [Decidable P] (h : ¬ P) : bI P = 0 := if_neg h
