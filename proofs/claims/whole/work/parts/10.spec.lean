/-! the reference's state: S c k: component c at place k. 0 value, 1 state, 2 asOf, 3 committedAt, 4 by, 5 row, 6 ahead, 7 isVoid, 8 slot, 9 isEnded; 10 size, 11 moment, 12 transactions, 13 changes, 14 dropped, 15 marks, 16 isLate, 17 thrown (at place 0) -/
abbrev St : Type := Nat → Nat → Int32
def sU (S : St) (c : Nat) (f : Nat → Int32) : St := fun c' => if c' = c then f else S c'
def sS (S : St) (c : Nat) (x : Int32) : St := sU S c (fun _ => x)
def sA (S : St) (c k : Nat) (x : Int32) : St := sU S c (upd (S c) k x)
theorem sU_s {S : St} {c : Nat} {f : Nat → Int32} : sU S c f c = f := if_pos rfl
theorem sU_n {S : St} {c d : Nat} {f : Nat → Int32} (h : d ≠ c) : sU S c f d = S d := if_neg h
abbrev bI (P : Prop) [Decidable P] : Int32 := if P then 1 else 0
abbrev nv (x : Int32) : Nat := x.toNatClampNeg
abbrev mF (ad : Nat → Nat) (S : St) : List Value := [.ref (ad 2001), .int (S 10 0), .int (S 11 0), .int (S 12 0), .ref (ad 2002), .ref (ad 2003), .ref (ad 2004), .int (S 13 0), .ref (ad 2005), .ref (ad 2006), .ref (ad 2007), .ref (ad 2008), .int (S 14 0), .ref (ad 2009), .ref (ad 2010), .int (S 15 0), .int (S 16 0), .int (S 17 0)]
def FrM (w0 w : kWd) : Prop := ∀ k : Nat, (k < 2000 ∨ 2011 ≤ k) → w k = w0 k
/-- the reference's world, and that nothing else has changed since w0 -/
def MW (D : va_G) (S : St) (ad : Nat → Nat) (w0 w : kWd) : Prop :=
  w 2000 = some (.inr (7, mF ad S)) ∧ w 2001 = some (.inl (D.1 100, 12, .inl (S 0))) ∧ w 2002 = some (.inl (D.1 100, 60, .inl (S 1))) ∧ w 2003 = some (.inl (D.1 100, 60, .inl (S 2))) ∧ w 2004 = some (.inl (D.1 100, 60, .inl (S 3))) ∧
  w 2005 = some (.inl (D.1 100, 2000, .inl (S 4))) ∧ w 2006 = some (.inl (D.1 100, 2000, .inl (S 5))) ∧ w 2007 = some (.inl (D.1 100, 2000, .inl (S 6))) ∧ w 2008 = some (.inl (D.1 101, 2000, .inl (S 7))) ∧ w 2009 = some (.inl (D.1 100, 6, .inl (S 8))) ∧ w 2010 = some (.inl (D.1 101, 6, .inl (S 9))) ∧ FrM w0 w
section MWs
variable {D : va_G} {S : St} {ad : Nat → Nat} {w0 w w1 : kWd}
theorem MW.o (h : MW D S ad w0 w) : w 2000 = some (.inr (7, mF ad S)) := h.1
theorem MW.a0 (h : MW D S ad w0 w) : w 2001 = some (.inl (D.1 100, 12, .inl (S 0))) := h.2.1
theorem MW.a1 (h : MW D S ad w0 w) : w 2002 = some (.inl (D.1 100, 60, .inl (S 1))) := h.2.2.1
theorem MW.a2 (h : MW D S ad w0 w) : w 2003 = some (.inl (D.1 100, 60, .inl (S 2))) := h.2.2.2.1
theorem MW.a3 (h : MW D S ad w0 w) : w 2004 = some (.inl (D.1 100, 60, .inl (S 3))) := h.2.2.2.2.1
theorem MW.a4 (h : MW D S ad w0 w) : w 2005 = some (.inl (D.1 100, 2000, .inl (S 4))) := h.2.2.2.2.2.1
theorem MW.a5 (h : MW D S ad w0 w) : w 2006 = some (.inl (D.1 100, 2000, .inl (S 5))) := h.2.2.2.2.2.2.1
theorem MW.a6 (h : MW D S ad w0 w) : w 2007 = some (.inl (D.1 100, 2000, .inl (S 6))) := h.2.2.2.2.2.2.2.1
theorem MW.a7 (h : MW D S ad w0 w) : w 2008 = some (.inl (D.1 101, 2000, .inl (S 7))) := h.2.2.2.2.2.2.2.2.1
theorem MW.a8 (h : MW D S ad w0 w) : w 2009 = some (.inl (D.1 100, 6, .inl (S 8))) := h.2.2.2.2.2.2.2.2.2.1
theorem MW.a9 (h : MW D S ad w0 w) : w 2010 = some (.inl (D.1 101, 6, .inl (S 9))) := h.2.2.2.2.2.2.2.2.2.2.1
theorem MW.fr (h : MW D S ad w0 w) : FrM w0 w := h.2.2.2.2.2.2.2.2.2.2.2
theorem MW.s10 (h : MW D S ad w0 w) {x : Int32} (e : w1 = va_up w 2000 (some (.inr (7, (mF ad S).set 1 (.int x))))) : MW D (sS S 10 x) ad w0 w1 := ⟨(up_s e), (up_n e (by decide)).trans h.a0, (up_n e (by decide)).trans h.a1, (up_n e (by decide)).trans h.a2, (up_n e (by decide)).trans h.a3, (up_n e (by decide)).trans h.a4, (up_n e (by decide)).trans h.a5, (up_n e (by decide)).trans h.a6, (up_n e (by decide)).trans h.a7, (up_n e (by decide)).trans h.a8, (up_n e (by decide)).trans h.a9, fun k hk => (up_n e (by omega)).trans (h.fr k hk)⟩
theorem MW.s11 (h : MW D S ad w0 w) {x : Int32} (e : w1 = va_up w 2000 (some (.inr (7, (mF ad S).set 2 (.int x))))) : MW D (sS S 11 x) ad w0 w1 := ⟨(up_s e), (up_n e (by decide)).trans h.a0, (up_n e (by decide)).trans h.a1, (up_n e (by decide)).trans h.a2, (up_n e (by decide)).trans h.a3, (up_n e (by decide)).trans h.a4, (up_n e (by decide)).trans h.a5, (up_n e (by decide)).trans h.a6, (up_n e (by decide)).trans h.a7, (up_n e (by decide)).trans h.a8, (up_n e (by decide)).trans h.a9, fun k hk => (up_n e (by omega)).trans (h.fr k hk)⟩
theorem MW.s12 (h : MW D S ad w0 w) {x : Int32} (e : w1 = va_up w 2000 (some (.inr (7, (mF ad S).set 3 (.int x))))) : MW D (sS S 12 x) ad w0 w1 := ⟨(up_s e), (up_n e (by decide)).trans h.a0, (up_n e (by decide)).trans h.a1, (up_n e (by decide)).trans h.a2, (up_n e (by decide)).trans h.a3, (up_n e (by decide)).trans h.a4, (up_n e (by decide)).trans h.a5, (up_n e (by decide)).trans h.a6, (up_n e (by decide)).trans h.a7, (up_n e (by decide)).trans h.a8, (up_n e (by decide)).trans h.a9, fun k hk => (up_n e (by omega)).trans (h.fr k hk)⟩
theorem MW.s13 (h : MW D S ad w0 w) {x : Int32} (e : w1 = va_up w 2000 (some (.inr (7, (mF ad S).set 7 (.int x))))) : MW D (sS S 13 x) ad w0 w1 := ⟨(up_s e), (up_n e (by decide)).trans h.a0, (up_n e (by decide)).trans h.a1, (up_n e (by decide)).trans h.a2, (up_n e (by decide)).trans h.a3, (up_n e (by decide)).trans h.a4, (up_n e (by decide)).trans h.a5, (up_n e (by decide)).trans h.a6, (up_n e (by decide)).trans h.a7, (up_n e (by decide)).trans h.a8, (up_n e (by decide)).trans h.a9, fun k hk => (up_n e (by omega)).trans (h.fr k hk)⟩
theorem MW.s14 (h : MW D S ad w0 w) {x : Int32} (e : w1 = va_up w 2000 (some (.inr (7, (mF ad S).set 12 (.int x))))) : MW D (sS S 14 x) ad w0 w1 := ⟨(up_s e), (up_n e (by decide)).trans h.a0, (up_n e (by decide)).trans h.a1, (up_n e (by decide)).trans h.a2, (up_n e (by decide)).trans h.a3, (up_n e (by decide)).trans h.a4, (up_n e (by decide)).trans h.a5, (up_n e (by decide)).trans h.a6, (up_n e (by decide)).trans h.a7, (up_n e (by decide)).trans h.a8, (up_n e (by decide)).trans h.a9, fun k hk => (up_n e (by omega)).trans (h.fr k hk)⟩
theorem MW.s15 (h : MW D S ad w0 w) {x : Int32} (e : w1 = va_up w 2000 (some (.inr (7, (mF ad S).set 15 (.int x))))) : MW D (sS S 15 x) ad w0 w1 := ⟨(up_s e), (up_n e (by decide)).trans h.a0, (up_n e (by decide)).trans h.a1, (up_n e (by decide)).trans h.a2, (up_n e (by decide)).trans h.a3, (up_n e (by decide)).trans h.a4, (up_n e (by decide)).trans h.a5, (up_n e (by decide)).trans h.a6, (up_n e (by decide)).trans h.a7, (up_n e (by decide)).trans h.a8, (up_n e (by decide)).trans h.a9, fun k hk => (up_n e (by omega)).trans (h.fr k hk)⟩
theorem MW.s16 (h : MW D S ad w0 w) {x : Int32} (e : w1 = va_up w 2000 (some (.inr (7, (mF ad S).set 16 (.int x))))) : MW D (sS S 16 x) ad w0 w1 := ⟨(up_s e), (up_n e (by decide)).trans h.a0, (up_n e (by decide)).trans h.a1, (up_n e (by decide)).trans h.a2, (up_n e (by decide)).trans h.a3, (up_n e (by decide)).trans h.a4, (up_n e (by decide)).trans h.a5, (up_n e (by decide)).trans h.a6, (up_n e (by decide)).trans h.a7, (up_n e (by decide)).trans h.a8, (up_n e (by decide)).trans h.a9, fun k hk => (up_n e (by omega)).trans (h.fr k hk)⟩
theorem MW.s17 (h : MW D S ad w0 w) {x : Int32} (e : w1 = va_up w 2000 (some (.inr (7, (mF ad S).set 17 (.int x))))) : MW D (sS S 17 x) ad w0 w1 := ⟨(up_s e), (up_n e (by decide)).trans h.a0, (up_n e (by decide)).trans h.a1, (up_n e (by decide)).trans h.a2, (up_n e (by decide)).trans h.a3, (up_n e (by decide)).trans h.a4, (up_n e (by decide)).trans h.a5, (up_n e (by decide)).trans h.a6, (up_n e (by decide)).trans h.a7, (up_n e (by decide)).trans h.a8, (up_n e (by decide)).trans h.a9, fun k hk => (up_n e (by omega)).trans (h.fr k hk)⟩
theorem MW.t0 (h : MW D S ad w0 w) {k : Nat} {x : Int32} (e : w1 = va_up w 2001 (some (.inl (D.1 100, 12, .inl (upd (S 0) k x))))) : MW D (sA S 0 k x) ad w0 w1 := ⟨(up_n e (by decide)).trans h.o, (up_s e), (up_n e (by decide)).trans h.a1, (up_n e (by decide)).trans h.a2, (up_n e (by decide)).trans h.a3, (up_n e (by decide)).trans h.a4, (up_n e (by decide)).trans h.a5, (up_n e (by decide)).trans h.a6, (up_n e (by decide)).trans h.a7, (up_n e (by decide)).trans h.a8, (up_n e (by decide)).trans h.a9, fun k hk => (up_n e (by omega)).trans (h.fr k hk)⟩
theorem MW.t1 (h : MW D S ad w0 w) {k : Nat} {x : Int32} (e : w1 = va_up w 2002 (some (.inl (D.1 100, 60, .inl (upd (S 1) k x))))) : MW D (sA S 1 k x) ad w0 w1 := ⟨(up_n e (by decide)).trans h.o, (up_n e (by decide)).trans h.a0, (up_s e), (up_n e (by decide)).trans h.a2, (up_n e (by decide)).trans h.a3, (up_n e (by decide)).trans h.a4, (up_n e (by decide)).trans h.a5, (up_n e (by decide)).trans h.a6, (up_n e (by decide)).trans h.a7, (up_n e (by decide)).trans h.a8, (up_n e (by decide)).trans h.a9, fun k hk => (up_n e (by omega)).trans (h.fr k hk)⟩
theorem MW.t2 (h : MW D S ad w0 w) {k : Nat} {x : Int32} (e : w1 = va_up w 2003 (some (.inl (D.1 100, 60, .inl (upd (S 2) k x))))) : MW D (sA S 2 k x) ad w0 w1 := ⟨(up_n e (by decide)).trans h.o, (up_n e (by decide)).trans h.a0, (up_n e (by decide)).trans h.a1, (up_s e), (up_n e (by decide)).trans h.a3, (up_n e (by decide)).trans h.a4, (up_n e (by decide)).trans h.a5, (up_n e (by decide)).trans h.a6, (up_n e (by decide)).trans h.a7, (up_n e (by decide)).trans h.a8, (up_n e (by decide)).trans h.a9, fun k hk => (up_n e (by omega)).trans (h.fr k hk)⟩
theorem MW.t3 (h : MW D S ad w0 w) {k : Nat} {x : Int32} (e : w1 = va_up w 2004 (some (.inl (D.1 100, 60, .inl (upd (S 3) k x))))) : MW D (sA S 3 k x) ad w0 w1 := ⟨(up_n e (by decide)).trans h.o, (up_n e (by decide)).trans h.a0, (up_n e (by decide)).trans h.a1, (up_n e (by decide)).trans h.a2, (up_s e), (up_n e (by decide)).trans h.a4, (up_n e (by decide)).trans h.a5, (up_n e (by decide)).trans h.a6, (up_n e (by decide)).trans h.a7, (up_n e (by decide)).trans h.a8, (up_n e (by decide)).trans h.a9, fun k hk => (up_n e (by omega)).trans (h.fr k hk)⟩
theorem MW.t4 (h : MW D S ad w0 w) {k : Nat} {x : Int32} (e : w1 = va_up w 2005 (some (.inl (D.1 100, 2000, .inl (upd (S 4) k x))))) : MW D (sA S 4 k x) ad w0 w1 := ⟨(up_n e (by decide)).trans h.o, (up_n e (by decide)).trans h.a0, (up_n e (by decide)).trans h.a1, (up_n e (by decide)).trans h.a2, (up_n e (by decide)).trans h.a3, (up_s e), (up_n e (by decide)).trans h.a5, (up_n e (by decide)).trans h.a6, (up_n e (by decide)).trans h.a7, (up_n e (by decide)).trans h.a8, (up_n e (by decide)).trans h.a9, fun k hk => (up_n e (by omega)).trans (h.fr k hk)⟩
theorem MW.t5 (h : MW D S ad w0 w) {k : Nat} {x : Int32} (e : w1 = va_up w 2006 (some (.inl (D.1 100, 2000, .inl (upd (S 5) k x))))) : MW D (sA S 5 k x) ad w0 w1 := ⟨(up_n e (by decide)).trans h.o, (up_n e (by decide)).trans h.a0, (up_n e (by decide)).trans h.a1, (up_n e (by decide)).trans h.a2, (up_n e (by decide)).trans h.a3, (up_n e (by decide)).trans h.a4, (up_s e), (up_n e (by decide)).trans h.a6, (up_n e (by decide)).trans h.a7, (up_n e (by decide)).trans h.a8, (up_n e (by decide)).trans h.a9, fun k hk => (up_n e (by omega)).trans (h.fr k hk)⟩
theorem MW.t6 (h : MW D S ad w0 w) {k : Nat} {x : Int32} (e : w1 = va_up w 2007 (some (.inl (D.1 100, 2000, .inl (upd (S 6) k x))))) : MW D (sA S 6 k x) ad w0 w1 := ⟨(up_n e (by decide)).trans h.o, (up_n e (by decide)).trans h.a0, (up_n e (by decide)).trans h.a1, (up_n e (by decide)).trans h.a2, (up_n e (by decide)).trans h.a3, (up_n e (by decide)).trans h.a4, (up_n e (by decide)).trans h.a5, (up_s e), (up_n e (by decide)).trans h.a7, (up_n e (by decide)).trans h.a8, (up_n e (by decide)).trans h.a9, fun k hk => (up_n e (by omega)).trans (h.fr k hk)⟩
theorem MW.t7 (h : MW D S ad w0 w) {k : Nat} {x : Int32} (e : w1 = va_up w 2008 (some (.inl (D.1 101, 2000, .inl (upd (S 7) k x))))) : MW D (sA S 7 k x) ad w0 w1 := ⟨(up_n e (by decide)).trans h.o, (up_n e (by decide)).trans h.a0, (up_n e (by decide)).trans h.a1, (up_n e (by decide)).trans h.a2, (up_n e (by decide)).trans h.a3, (up_n e (by decide)).trans h.a4, (up_n e (by decide)).trans h.a5, (up_n e (by decide)).trans h.a6, (up_s e), (up_n e (by decide)).trans h.a8, (up_n e (by decide)).trans h.a9, fun k hk => (up_n e (by omega)).trans (h.fr k hk)⟩
theorem MW.t8 (h : MW D S ad w0 w) {k : Nat} {x : Int32} (e : w1 = va_up w 2009 (some (.inl (D.1 100, 6, .inl (upd (S 8) k x))))) : MW D (sA S 8 k x) ad w0 w1 := ⟨(up_n e (by decide)).trans h.o, (up_n e (by decide)).trans h.a0, (up_n e (by decide)).trans h.a1, (up_n e (by decide)).trans h.a2, (up_n e (by decide)).trans h.a3, (up_n e (by decide)).trans h.a4, (up_n e (by decide)).trans h.a5, (up_n e (by decide)).trans h.a6, (up_n e (by decide)).trans h.a7, (up_s e), (up_n e (by decide)).trans h.a9, fun k hk => (up_n e (by omega)).trans (h.fr k hk)⟩
theorem MW.t9 (h : MW D S ad w0 w) {k : Nat} {x : Int32} (e : w1 = va_up w 2010 (some (.inl (D.1 101, 6, .inl (upd (S 9) k x))))) : MW D (sA S 9 k x) ad w0 w1 := ⟨(up_n e (by decide)).trans h.o, (up_n e (by decide)).trans h.a0, (up_n e (by decide)).trans h.a1, (up_n e (by decide)).trans h.a2, (up_n e (by decide)).trans h.a3, (up_n e (by decide)).trans h.a4, (up_n e (by decide)).trans h.a5, (up_n e (by decide)).trans h.a6, (up_n e (by decide)).trans h.a7, (up_n e (by decide)).trans h.a8, (up_s e), fun k hk => (up_n e (by omega)).trans (h.fr k hk)⟩
end MWs
/-! what the reference's methods answer and do -/
abbrev inP (n a b : Int32) : Prop := ¬ n < a ∧ ¬ b < n
abbrev actP (S : St) (t : Int32) : Prop := S 1 (nv t) = 0
def lkL (S : St) (r : Int32) : Nat → Int32
  | 0 => -1
  | n + 1 => if S 5 n = r ∧ S 7 n = 0 then S 4 n else lkL S r n
def lockV (S : St) (r : Int32) : Int32 := if lkL S r (nv (S 13 0)) ≠ -1 ∧ actP S (lkL S r (nv (S 13 0))) then lkL S r (nv (S 13 0)) else -1
abbrev endP (S : St) (k : Nat) : Prop := S 8 k ≠ -1 ∧ ¬ actP S (S 8 k) ∧ S 9 k = 0
def clean1 (S : St) (k : Nat) : St := if endP S k then sS (sA S 9 k 1) 15 (S 15 0 + 1) else S
def cleanS (S : St) (b : Nat) : St := clean1 (clean1 S (2 * b)) (2 * b + 1)
abbrev freeP (S : St) (k : Nat) : Prop := S 8 k = -1 ∨ ¬ actP S (S 8 k)
def ownK (S : St) (t : Int32) (b : Nat) : Int32 := if S 8 (2 * b) = t then nI (2 * b) else if S 8 (2 * b + 1) = t then nI (2 * b + 1) else -1
def freeK (S : St) (b : Nat) : Int32 := if freeP S (2 * b) then nI (2 * b) else if freeP S (2 * b + 1) then nI (2 * b + 1) else -1
def slF (S : St) (t : Int32) (b : Nat) : Int32 := if ownK S t b = -1 then freeK S b else ownK S t b
abbrev spP (S : St) : Prop := S 13 0 - S 14 0 < S 10 0 ∨ ¬ actP S (S 4 (nv (S 14 0)))
abbrev seenP (S : St) (m t : Int32) (k : Nat) : Prop := S 4 k = t ∨ (S 1 (nv (S 4 k)) = 1 ∧ S 3 (nv (S 4 k)) ≤ m)
/-- the reading loop: what is left of n changes; the value so far, whether it is late -/
def vaL (S : St) (m r t : Int32) : Nat → Int32 → Int32 → Int32 × Int32
  | 0, v, z => (v, z)
  | n + 1, v, z => if S 5 n = r ∧ S 7 n = 0 then (if seenP S m t n then (v, z) else vaL S m r t n (S 6 n) (if z = 0 then bI (nI n < S 14 0) else 1)) else vaL S m r t n v z
def vaV (S : St) (m r t : Int32) : Int32 × Int32 := vaL S m r t (nv (S 13 0)) (S 0 (nv r)) 0
def stL (S : St) (t : Int32) : Nat → Int32
  | 0 => 0
  | n + 1 => stL S t n + bI (S 4 n = t ∧ S 7 n = 0)
def stV (S : St) (t : Int32) : Int32 := stL S t (nv (S 13 0))
def unL (t : Int32) : Nat → Int32 → St → St
  | 0, _, S => S
  | n + 1, z, S => if 0 < z then (if S 4 n = t ∧ S 7 n = 0 then unL t n (z - 1) (sA (sA S 7 n 1) 0 (nv (S 5 n)) (S 6 n)) else unL t n z S) else S
def unS (S : St) (t z : Int32) : St := unL t (nv (S 13 0)) z S
/-- what holds of the state at every time; c: how many calls there were -/
def Inv (c : Nat) (S : St) : Prop := ∃ nT nC nD nM nZ : Nat, S 12 0 = nI nT ∧ S 13 0 = nI nC ∧ S 14 0 = nI nD ∧ S 11 0 = nI nM ∧ S 10 0 = nI nZ ∧ nT ≤ 60 ∧ nC ≤ c ∧ nD ≤ nC ∧ nM ≤ c ∧ 1 ≤ nZ ∧ nZ ≤ 30 ∧ nC - nD ≤ nZ ∧
  (∀ k, k < nC → (∃ t, t < nT ∧ S 4 k = nI t) ∧ (∃ r, r < 12 ∧ S 5 k = nI r) ∧ (S 7 k = 0 ∨ S 7 k = 1)) ∧ (∀ k, nC ≤ k → S 7 k = 0) ∧
  (∀ i, i < 6 → (S 8 i = -1 ∨ ∃ t, t < nT ∧ S 8 i = nI t) ∧ (S 9 i = 0 ∨ S 9 i = 1)) ∧ (∀ t, t < 60 → S 1 t = 0 ∨ S 1 t = 1 ∨ S 1 t = 2) ∧ (∀ t, nT ≤ t → S 1 t = 0) ∧ (∀ t, t < nT → S 1 t = 1 → ∃ j, 1 ≤ j ∧ j ≤ nM ∧ S 3 t = nI j) ∧ (∀ t, t < nT → ∃ j, j ≤ nM ∧ S 2 t = nI j)
theorem FrM.rf {w : kWd} : FrM w w := fun _ _ => rfl
theorem MW.re {D : va_G} {S : St} {ad : Nat → Nat} {w0 w : kWd} (h : MW D S ad w0 w) : MW D S ad w w := ⟨h.o, h.a0, h.a1, h.a2, h.a3, h.a4, h.a5, h.a6, h.a7, h.a8, h.a9, FrM.rf⟩
theorem MW.tr {D : va_G} {S S' : St} {ad : Nat → Nat} {w0 w w1 : kWd} (h : MW D S ad w0 w) (h1 : MW D S' ad w w1) : MW D S' ad w0 w1 := ⟨h1.o, h1.a0, h1.a1, h1.a2, h1.a3, h1.a4, h1.a5, h1.a6, h1.a7, h1.a8, h1.a9, fun k hk => (h1.fr k hk).trans (h.fr k hk)⟩
theorem bI_t {P : Prop} [Decidable P] (h : ¬ bI P = 0) : P := by
  by_cases c : P
  · exact c
  · exact absurd (if_neg c) h
theorem bI_f {P : Prop} [Decidable P] (h : bI P = 0) : ¬ P := by
  intro c
  rw [show bI P = 1 from if_pos c] at h
  exact absurd h (by decide)
theorem bI_01 {P : Prop} [Decidable P] : bI P = 0 ∨ bI P = 1 := by
  by_cases c : P
  · exact Or.inr (if_pos c)
  · exact Or.inl (if_neg c)
theorem bI_1 {P : Prop} [Decidable P] (h : P) : bI P = 1 := if_pos h
theorem bI_0 {P : Prop} [Decidable P] (h : ¬ P) : bI P = 0 := if_neg h
