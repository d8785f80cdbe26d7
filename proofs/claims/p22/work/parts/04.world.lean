/-! worlds by keys: ad k is the address of the thing of key k, w k what it holds -/
abbrev kWd : Type := Nat → Option va_E
def kW (D : va_G) (ad : Nat → Nat) (w : kWd) (H : Heap) : Prop := ∀ (k : Nat) (e : va_E), w k = some e → va_at D vwCl (ad k, e) H
def kI (A : Nat → Prop) (ad : Nat → Nat) (w : kWd) : Prop := (∀ (i j : Nat) (x y : va_E), w i = some x → w j = some y → ad i = ad j → i = j) ∧ ∀ (k : Nat) (e : va_E), w k = some e → A (ad k)
def kS (D : va_G) (A : Nat → Prop) (H0 : Heap) (ad : Nat → Nat) (w : kWd) (H : Heap) (locs : List Loc) : Prop := kW D ad w H ∧ kI A ad w ∧ va_S A H0 H locs ∧ ∀ q : Nat, H0.size ≤ q → A q
theorem up_s {α : Type} {f g : Nat → α} {k : Nat} {v : α} (e : g = va_up f k v) : g k = v := by rw [e]; exact va_up_self _ _ _
theorem up_n {α : Type} {f g : Nat → α} {k j : Nat} {v : α} (e : g = va_up f k v) (h : j ≠ k) : g j = f j := by rw [e]; exact va_up_ne _ _ h
theorem up_some {w : kWd} {k i : Nat} {e0 e x : va_E} (hk : w k = some e0) (h : va_up w k (some e) i = some x) : ∃ y, w i = some y := by
  by_cases c : i = k
  · exact ⟨e0, by rw [c]; exact hk⟩
  · rw [va_up_ne _ _ c] at h
    exact ⟨x, h⟩
theorem kI.set {A : Nat → Prop} {ad : Nat → Nat} {w : kWd} {k : Nat} {e0 e : va_E} (h : kI A ad w) (hk : w k = some e0) : kI A ad (va_up w k (some e)) := by
  refine ⟨fun i j x y hi hj hij => ?_, fun i x hi => ?_⟩
  · obtain ⟨x', hx⟩ := up_some hk hi
    obtain ⟨y', hy⟩ := up_some hk hj
    exact h.1 i j x' y' hx hy hij
  · obtain ⟨x', hx⟩ := up_some hk hi
    exact h.2 i x' hx
theorem kW.set {D : va_G} {A : Nat → Prop} {ad : Nat → Nat} {w : kWd} {H H1 : Heap} {k : Nat} {e0 e : va_E} (h : kW D ad w H) (hI : kI A ad w) (hk : w k = some e0) (he : va_at D vwCl (ad k, e) H1) (oq : ∀ q : Nat, q ≠ ad k → H1[q]? = H[q]?) : kW D ad (va_up w k (some e)) H1 := by
  intro i x hi
  by_cases c : i = k
  · subst c
    rw [va_up_self] at hi
    cases hi
    exact he
  · rw [va_up_ne _ _ c] at hi
    exact (h i x hi).kept (oq _ (fun z => c (hI.1 i k x e0 hi hk z)))
theorem kS.set {D : va_G} {A : Nat → Prop} {H0 : Heap} {ad : Nat → Nat} {w : kWd} {H H1 : Heap} {locs : List Loc} {k : Nat} {e0 e : va_E} (h : kS D A H0 ad w H locs) (hk : w k = some e0) (he : va_at D vwCl (ad k, e) H1) (z : H1.size = H.size) (oq : ∀ q : Nat, q ≠ ad k → H1[q]? = H[q]?) (j : Nat) : kS D A H0 ad (va_up w k (some e)) H1 (locs ++ [⟨ad k, j⟩]) :=
  ⟨h.1.set h.2.1 hk he oq, h.2.1.set hk, h.2.2.1.put z oq (h.2.1.2 k _ hk), h.2.2.2⟩
theorem kS.push {D : va_G} {A : Nat → Prop} {H0 : Heap} {ad : Nat → Nat} {w : kWd} {H H1 : Heap} {locs : List Loc} (k : Nat) {e : va_E} (h : kS D A H0 ad w H locs) (he : va_at D vwCl (H.size, e) H1) (z : H.size ≤ H1.size) (oq : ∀ q : Nat, q < H.size → H1[q]? = H[q]?) : kS D A H0 (va_up ad k H.size) (va_up w k (some e)) H1 locs := by
  have lt : ∀ i x, w i = some x → ad i < H.size := fun i x hi => (h.1 i x hi).lt
  have key : ∀ i x, va_up w k (some e) i = some x → (i = k ∧ x = e) ∨ (i ≠ k ∧ w i = some x) := by
    intro i x hi
    by_cases c : i = k
    · subst c
      rw [va_up_self] at hi
      cases hi
      exact Or.inl ⟨rfl, rfl⟩
    · rw [va_up_ne _ _ c] at hi
      exact Or.inr ⟨c, hi⟩
  refine ⟨fun i x hi => ?_, ⟨fun i j x y hi hj hij => ?_, fun i x hi => ?_⟩, ⟨Nat.le_trans h.2.2.1.1 z, fun q h1 h2 => (oq q (Nat.lt_of_lt_of_le h1 h.2.2.1.1)).trans (h.2.2.1.2.1 q h1 h2), h.2.2.1.2.2⟩, h.2.2.2⟩
  · rcases key i x hi with ⟨rfl, rfl⟩ | ⟨c, hx⟩
    · rw [va_up_self]
      exact he
    · rw [va_up_ne _ _ c]
      exact (h.1 i x hx).kept (oq _ (lt i x hx))
  · rcases key i x hi with ⟨c1, -⟩ | ⟨c1, hx⟩ <;> rcases key j y hj with ⟨c2, -⟩ | ⟨c2, hy⟩
    · rw [c1, c2]
    · rw [c1, va_up_self, va_up_ne _ _ c2] at hij
      have := lt j y hy
      omega
    · rw [c2, va_up_self, va_up_ne _ _ c1] at hij
      have := lt i x hx
      omega
    · rw [va_up_ne _ _ c1, va_up_ne _ _ c2] at hij
      exact h.2.1.1 i j x y hx hy hij
  · rcases key i x hi with ⟨c1, -⟩ | ⟨c1, hx⟩
    · rw [c1, va_up_self]
      exact h.2.2.2 _ h.2.2.1.1
    · rw [va_up_ne _ _ c1]
      exact h.2.1.2 i x hx
theorem kS.P1 {D : va_G} {A : Nat → Prop} {H0 : Heap} {ad : Nat → Nat} {w : kWd} {H : Heap} {locs : List Loc} {k : Nat} {e : va_E} (h : kS D A H0 ad w H locs) (hk : w k = some e) : va_P D vwCl [(ad k, e)] H := by
  intro i q hq
  have hz : i < 1 := (List.getElem?_eq_some_iff.mp hq).1
  rw [show i = 0 by omega] at hq
  cases hq
  exact h.1 k e hk
/-- the classes of arrays -/
abbrev kT (D : va_G) : List (ClassId × FieldType) := [(D.1 100, .int), (D.1 100, .int), (D.1 100, .int), (D.1 103, .object "UndoCellar$Block"), (D.1 104, .object "UndoCellar$Row"), (D.1 105, .object "UndoCellar$Slot"), (D.1 106, .object "java/lang/Object")]
/-- words that only the tables decide: the nest's, casts: places 0.. 38 -/
def kN : List Cond := [
  .fieldLinkNest "UndoCellar$Block" 18 "UndoCellar$Slot" "holder" "LUndoCellar$Transaction;" "UndoCellar",
  .fieldLinkNest "UndoCellar" 182 "UndoCellar$Slot" "holder" "LUndoCellar$Transaction;" "UndoCellar",
  .fieldLinkNest "UndoCellar$Block" 26 "UndoCellar$Slot" "marked" "Z" "UndoCellar",
  .fieldLinkNest "UndoCellar" 186 "UndoCellar$Slot" "marked" "Z" "UndoCellar",
  .fieldLinkNest "UndoCellar" 202 "UndoCellar$Block" "slots" "[LUndoCellar$Slot;" "UndoCellar",
  .fieldLinkNest "UndoCellar" 104 "UndoCellar$Row" "block" "LUndoCellar$Block;" "UndoCellar",
  .fieldLinkNest "UndoCellar$Change" 31 "UndoCellar$Row" "value" "I" "UndoCellar",
  .fieldLinkNest "UndoCellar" 128 "UndoCellar$Row" "value" "I" "UndoCellar",
  .fieldLinkNest "UndoCellar" 78 "UndoCellar$Transaction" "number" "I" "UndoCellar",
  .fieldLinkNest "UndoCellar" 141 "UndoCellar$Transaction" "beganAt" "I" "UndoCellar",
  .fieldLinkNest "UndoCellar$Slot" 17 "UndoCellar$Transaction" "active" "Z" "UndoCellar",
  .fieldLinkNest "UndoCellar" 160 "UndoCellar$Transaction" "active" "Z" "UndoCellar",
  .fieldLinkNest "UndoCellar" 164 "UndoCellar$Transaction" "committedAt" "I" "UndoCellar",
  .fieldLinkNest "UndoCellar$Change" 36 "UndoCellar$Transaction" "standing" "I" "UndoCellar",
  .fieldLinkNest "UndoCellar" 151 "UndoCellar$Transaction" "standing" "I" "UndoCellar",
  .fieldLinkNest "UndoCellar" 216 "UndoCellar$Change" "transaction" "LUndoCellar$Transaction;" "UndoCellar",
  .fieldLinkNest "UndoCellar" 138 "UndoCellar$Change" "ahead" "I" "UndoCellar",
  .fieldLinkNest "UndoCellar" 221 "UndoCellar$Change" "isVoid" "Z" "UndoCellar",
  .methodLinkNest "UndoCellar" 108 yX0_slotFor "UndoCellar",
  .methodLinkNest "UndoCellar" 117 yX3_give "UndoCellar",
  .methodLinkNest "UndoCellar" 131 yX1_init "UndoCellar",
  .methodLinkNest "UndoCellar" 134 yX1_make "UndoCellar",
  .methodLinkNest "UndoCellar" 224 yX1_takeBack "UndoCellar",
  .methodLinkNest "UndoCellar" 227 yX1_stands "UndoCellar",
  .methodLinkNest "UndoCellar" 236 yX1_isSeen "UndoCellar",
  .methodLinkNest "UndoCellar" 240 yX0_markEnded "UndoCellar",
  .methodLinkNest "UndoCellar" 44 yX0_init "UndoCellar",
  .methodLinkNest "UndoCellar" 45 yX2_init "UndoCellar",
  .methodLinkNest "UndoCellar" 71 yX4_init "UndoCellar",
  .methodLinkNest "UndoCellar$Block" 17 yX3_init "UndoCellar",
  .methodLinkNest "UndoCellar$Block" 22 yX3_isEnded "UndoCellar",
  .methodLinkNest "UndoCellar$Change" 25 yX4_isCommittedBy "UndoCellar",
  .castable "java/lang/IllegalArgumentException" "java/lang/IllegalArgumentException",
  .castable "java/lang/IllegalStateException" "java/lang/IllegalStateException",
  .castable "java/lang/IndexOutOfBoundsException" "java/lang/IndexOutOfBoundsException",
  .castable "java/util/NoSuchElementException" "java/util/NoSuchElementException",
  .castable "UndoCellar$Transaction" "java/lang/Object",
  .castable "UndoCellar$Change" "java/lang/Object",
  .declares ⟨"java/lang/Object", "getClass", "()Ljava/lang/Class;"⟩,
  .declares ⟨"java/lang/RuntimeException", "<init>", "(Ljava/lang/String;)V"⟩,
  .declares ⟨"java/lang/Exception", "<init>", "(Ljava/lang/String;)V"⟩,
  .declares ⟨"java/lang/Throwable", "<init>", "(Ljava/lang/String;)V"⟩]
/-- the texts of what is thrown -/
def kR : List (Nat × String) := [(50, "the size is out of range"), (61, "more records than that are there"), (67, "there were as many transactions as there can be"), (91, "the value is out of range"), (112, "no slot can be had"), (154, "so many changes can't be kept"), (191, "there is no such transaction"), (198, "there is no such row"), (200, "there is no such block"), (206, "there is no such slot"), (208, "the transaction is not active"), (210, "the moment is out of range"), (212, "the row is locked by another transaction"), (214, "the object was used for more calls than it is for"), (219, "there is no space"), (233, "the read comes too late")]
/-- what is no such exception -/
def kC : List (String × String) := [("java/lang/IllegalArgumentException", "java/lang/IllegalStateException"), ("java/lang/IllegalArgumentException", "java/lang/IndexOutOfBoundsException"), ("java/lang/IllegalArgumentException", "java/util/NoSuchElementException"), ("java/lang/IllegalStateException", "java/lang/IllegalArgumentException"), ("java/lang/IllegalStateException", "java/lang/IndexOutOfBoundsException"), ("java/lang/IllegalStateException", "java/util/NoSuchElementException"), ("java/lang/IndexOutOfBoundsException", "java/lang/IllegalArgumentException"), ("java/lang/IndexOutOfBoundsException", "java/lang/IllegalStateException"), ("java/lang/IndexOutOfBoundsException", "java/util/NoSuchElementException"), ("java/util/NoSuchElementException", "java/lang/IllegalArgumentException"), ("java/util/NoSuchElementException", "java/lang/IllegalStateException"), ("java/util/NoSuchElementException", "java/lang/IndexOutOfBoundsException")]
def kKind : Cond → Bool
  | .fieldLinkNest _ _ _ _ _ _ => true
  | .methodLinkNest _ _ _ _ => true
  | .castable _ _ => true
  | .declares _ => true
  | _ => false
theorem kKind_warm {w : Cond} (hw : kKind w = true) {s U : State} (hW : s.WarmedH U.vm) (h : va_Nw w s) : va_Nw w U := by
  cases w <;> first | exact va_Nw.warmF hW h | exact va_Nw.warmM hW h | exact va_Nw.warmC hW h | exact va_Nw.warmD hW h | cases hw
theorem kN_kind : ∀ w ∈ kN, kKind w = true := by decide +kernel
/-- what stands fast: classes, arrays' classes, statics, texts .. -/
def kE (D : va_G) (A : Nat → Prop) (U : State) : Prop :=
  va_K D vwCl (kT D) U ∧ vx_Zq Bundle.tN "UNASSIGNED_STACK" Bundle.steD A U U.heap ∧ vx_Zq Bundle.tN "SUPPRESSED_SENTINEL" Bundle.listD A U U.heap ∧
  va_Z "java/util/ArrayList" "DEFAULTCAPACITY_EMPTY_ELEMENTDATA" "[Ljava/lang/Object;" (.ref (D.2 999 0)) A U U.heap ∧ va_T (.object "java/lang/Object") (D.2 999 0) 0 (fun _ => .null) A U U.heap ∧
  (∀ w ∈ kN, va_Nw w U) ∧ (∀ q ∈ kR, ∃ sa, vk_R RX5 q.1 q.2 sa U) ∧ (∀ q ∈ kC, va_Nc q.1 q.2 U) ∧
  va_AO "UndoCellar$Block" U ∧ va_AO "UndoCellar$Row" U ∧ va_AO "UndoCellar$Slot" U ∧ va_AO "java/lang/Object" U ∧ va_Mi "[Ljava/lang/Object;" (D.2 998 0) U
theorem kE.to {D : va_G} {A : Nat → Prop} {s U : State} (h : kE D A s) (hW : s.WarmedH U.vm) (hq : ∀ a : Nat, a < s.heap.size → ¬ A a → U.heap[a]? = s.heap[a]?) : kE D A U := by
  obtain ⟨h1, h2, h3, h4, h5, h6, h7, h8, h9, h10, h11, h12, h13⟩ := h
  exact ⟨va_K.moved hW.alike h1, vx_Zq.moved hW.alike (h2.kept hq), vx_Zq.moved hW.alike (h3.kept hq), va_Z.moved hW.alike (h4.kept hq), va_T.moved hW.alike (h5.kept hq),
    fun w hw => kKind_warm (kN_kind w hw) hW (h6 w hw), fun q hq => by obtain ⟨sa, hs⟩ := h7 q hq; exact ⟨sa, vk_R.warm hW hs⟩, fun q hq => va_Nc.moved hW.alike (h8 q hq),
    va_AO.moved hW.alike h9, va_AO.moved hW.alike h10, va_AO.moved hW.alike h11, va_AO.moved hW.alike h12, va_Mi.moved hW.alike h13⟩
theorem kE.K {D : va_G} {A : Nat → Prop} {s : State} (h : kE D A s) : va_K D vwCl (kT D) s := h.1
theorem kE.N {D : va_G} {A : Nat → Prop} {s : State} (h : kE D A s) (i : Nat) {w : Cond} (hw : kN[i]? = some w) : va_Nw w s := h.2.2.2.2.2.1 w (List.mem_of_getElem? hw)
theorem kE.R {D : va_G} {A : Nat → Prop} {s : State} (h : kE D A s) (i : Nat) {k : Nat} {tx : String} (hw : kR[i]? = some (k, tx)) : ∃ sa, vk_R RX5 k tx sa s := h.2.2.2.2.2.2.1 (k, tx) (List.mem_of_getElem? hw)
theorem kE.C {D : va_G} {A : Nat → Prop} {s : State} (h : kE D A s) (i : Nat) {a b : String} (hw : kC[i]? = some (a, b)) : va_Nc a b s := h.2.2.2.2.2.2.2.1 (a, b) (List.mem_of_getElem? hw)
theorem kE.AO {D : va_G} {A : Nat → Prop} {s : State} (h : kE D A s) : va_AO "UndoCellar$Block" s ∧ va_AO "UndoCellar$Row" s ∧ va_AO "UndoCellar$Slot" s ∧ va_AO "java/lang/Object" s ∧ va_Mi "[Ljava/lang/Object;" (D.2 998 0) s := h.2.2.2.2.2.2.2.2
/-- a method's start -/
def kPc (D : va_G) (A : Nat → Prop) (av : List Value) (ad : Nat → Nat) (w : kWd) : Array Value → State → Prop := va_Pc av (fun U => kE D A U ∧ kW D ad w U.heap ∧ kI A ad w ∧ ∀ q : Nat, U.heap.size ≤ q → A q)
theorem kE.call {D : va_G} {A : Nat → Prop} {U : State} {g : JFrame} {mk : MethodId} {a : Array Value} (h : kE D A U) : kE D A (U.calling g mk a) :=
  kE.to (U := U.calling g mk a) h (State.WarmedH.refl U) (fun _ _ _ => rfl)
theorem kPc.bl {D : va_G} {A : Nat → Prop} {av : List Value} {ad : Nat → Nat} {w : kWd} : FrameBlind (kPc D A av ad w) := fun a U g mk q => ⟨q.1, q.2.1.call, q.2.2⟩
theorem kPc.at {D : va_G} {A : Nat → Prop} {s U : State} {ad : Nat → Nat} {w : kWd} {H : Heap} {locs : List Loc} (hE : kE D A s) (hW : kS D A s.heap ad w H locs) (av : List Value) (hU : U.heap = H) (hw : s.WarmedH U.vm) : kPc D A av ad w av.toArray U := by
  subst hU
  exact ⟨rfl, hE.to hw (fun a h1 h2 => hW.2.2.1.2.1 a h1 h2), hW.1, hW.2.1, fun q h => hW.2.2.2 q (Nat.le_trans hW.2.2.1.1 h)⟩
/-- a method's end -/
abbrev kU : Type := (Nat → Nat) × kWd
def kB (D : va_G) (A : Nat → Prop) : kU → State → Prop := fun u t => kW D u.1 u.2 t.heap ∧ kI A u.1 u.2
abbrev kQi (D : va_G) (A : Nat → Prop) (post : Int32 → (Nat → Nat) → kWd → Prop) : Array Value → State → Outcome → State → Prop := va_Qi (fun r (u : kU) => post r u.1 u.2) (kB D A) A
abbrev kQv (D : va_G) (A : Nat → Prop) (post : (Nat → Nat) → kWd → Prop) : Array Value → State → Outcome → State → Prop := va_Qv (fun (u : kU) => post u.1 u.2) (kB D A) A
abbrev kQq (D : va_G) (A : Nat → Prop) (post : Option Nat → (Nat → Nat) → kWd → Prop) : Array Value → State → Outcome → State → Prop := va_Qq (fun r (u : kU) => post r u.1 u.2) (kB D A) A
/-- .. by an exception, the world as it was -/
abbrev kX (D : va_G) (A : Nat → Prop) (px : String → Prop) (ad : Nat → Nat) (w : kWd) : String → State → State → Prop := vx_X (fun _ : Unit => True) (fun E _ t => px E ∧ kW D ad w t.heap) A
section KR
variable {p : Program} {l : Launch} {e : Env} {R : Room} {s : State} {m : MethodId} {args : Array Value} {below : List Frame} {meth : Method} {c : Code} {H : Heap} {locs : List Loc} {cells slots : Nat} {Q : State → Prop}
variable {cc : ByteArray} {pc : Nat} {ls : Array Slot} {rest : List Value} {D : va_G} {A : Nat → Prop} {ad : Nat → Nat} {w : kWd} {k : Nat}
theorem kk_get (hx : p.tables.exec = Jvm.exec) (hb : c.code = cc) {own ref C : String} {T : u_T} {N ci index : Nat} {Ts : List Cond} (hts : ∀ w ∈ Ts, w.before args s = true) (hown : s.vm.findClass own = some m.cls) (hE : kE D A s) (hW : kS D A s.heap ad w H locs) {fs : List Value} (he : w k = some (.inr (ci, fs))) (hc : vwCl[ci]? = some (C, T, N)) (hin : ∀ w ∈ u_ws C T N, w ∈ Ts) (j : Nat) (hj : j < N) (hlink : (Cond.fieldLink own index ref (T j).2.1 (T j).2.2.1).before args s = true) (hsame : ∀ x, s.fieldFound? (T j).1 (T j).2.1 (T j).2.2.1 = some x → s.fieldFound? ref (T j).2.1 (T j).2.2.1 = some x) {v : Value} (hv : fs[j]? = some v) (hdg : decode cc pc = .ok (.getfield index, 3))
    (kk : W p l e R s m args below meth c H locs cells slots Q (F0 m (pc + 3) ls (v :: rest))) : W p l e R s m args below meth c H locs cells slots Q (F0 m pc ls (.ref (ad k) :: rest)) :=
  va_get hx hb hts hin hown hE.K (hW.P1 he) 0 rfl hc j hj hlink hsame hv hdg kk
theorem kk_getN (hx : p.tables.exec = Jvm.exec) (hb : c.code = cc) {own ref C host : String} {T : u_T} {N ci index : Nat} {Ts : List Cond} (hts : ∀ w ∈ Ts, w.before args s = true) (hown : s.vm.findClass own = some m.cls) (hE : kE D A s) (hW : kS D A s.heap ad w H locs) {fs : List Value} (he : w k = some (.inr (ci, fs))) (hc : vwCl[ci]? = some (C, T, N)) (hin : ∀ w ∈ u_ws C T N, w ∈ Ts) (j : Nat) (hj : j < N) (hlink : va_Nw (.fieldLinkNest own index ref (T j).2.1 (T j).2.2.1 host) s) (hsame : ∀ x, s.fieldFound? (T j).1 (T j).2.1 (T j).2.2.1 = some x → s.fieldFound? ref (T j).2.1 (T j).2.2.1 = some x) {v : Value} (hv : fs[j]? = some v) (hdg : decode cc pc = .ok (.getfield index, 3))
    (kk : W p l e R s m args below meth c H locs cells slots Q (F0 m (pc + 3) ls (v :: rest))) : W p l e R s m args below meth c H locs cells slots Q (F0 m pc ls (.ref (ad k) :: rest)) :=
  va_getN hx hb hts hin hown hE.K (hW.P1 he) 0 rfl hc j hj (va_Nw.use rfl hlink) hsame hv hdg kk
theorem kk_put (hx : p.tables.exec = Jvm.exec) (hb : c.code = cc) {own ref C : String} {T : u_T} {N ci index : Nat} {Ts : List Cond} (hts : ∀ w ∈ Ts, w.before args s = true) (hown : s.vm.findClass own = some m.cls) (hE : kE D A s) (hW : kS D A s.heap ad w H locs) {fs : List Value} (he : w k = some (.inr (ci, fs))) (hc : vwCl[ci]? = some (C, T, N)) (hin : ∀ w ∈ u_ws C T N, w ∈ Ts) (ty0 : Nat → FieldType) (hty : ∀ k, k < N → parseFieldDescriptor (T k).2.2.1 = some (ty0 k)) (hnm : ∀ a, a < N → ∀ b, b < N → a ≠ b → (T a).2.1 ≠ (T b).2.1) (j : Nat) (hj : j < N) (hlink : (Cond.fieldLink own index ref (T j).2.1 (T j).2.2.1).before args s = true) (hsame : ∀ x, s.fieldFound? (T j).1 (T j).2.1 (T j).2.2.1 = some x → s.fieldFound? ref (T j).2.1 (T j).2.2.1 = some x) (hfin : (T j).2.2.2 = false) {ty : FieldType} {v : Value} (hd : parseFieldDescriptor (T j).2.2.1 = some ty) (hn : narrow ty v = v) (hfit : fits ty v = true) (hl : j < fs.length)
    (hdg : decode cc pc = .ok (.putfield index, 3)) (kk : ∀ (H1 : Heap) (locs1 : List Loc) (w1 : kWd), w1 = va_up w k (some (.inr (ci, fs.set j v))) → kS D A s.heap ad w1 H1 locs1 → W p l e R s m args below meth c H1 locs1 cells slots Q (F0 m (pc + 3) ls rest)) : W p l e R s m args below meth c H locs cells slots Q (F0 m pc ls (v :: .ref (ad k) :: rest)) := by
  have hK := hE.K
  have hap := va_apart (own := own) hts hin ty0 hty hnm hK hc
  obtain ⟨r, h1, cell, q1, q2, q3, q4⟩ := hW.1 k _ he
  have hr : r = (C, T, N) := Option.some.inj (h1.symm.trans hc)
  subst hr
  obtain ⟨hS, hfc, kC, hkC, hkind⟩ := hK.1 ci _ hc
  obtain ⟨cf, kf, fi, f, hi, hsl⟩ := hS j hj
  have hlay := hts _ (hin _ (u_in_lay hj))
  unfold u_lay at hlay
  rw [if_neg (by rw [hfin]; decide)] at hlay
  have hst := (u_facts hfc hkC (u_lays hts hin hj) hi).1
  have h6 := u_store hfc hkC hkind hlay hi hd hn hfit
  refine W.putK hx hb (f := f) ⟨hown, hlink, ⟨_, _, _, hsame _ hi⟩, hst⟩ (by rw [q2]; exact h6) q1 q3 (by rw [hsl]; exact k2_hasslot (q4 j hj)) rfl rfl hdg fun H' e1 e2 e3 => ?_
  rw [hsl] at e1 ⊢
  exact kk H' _ _ rfl (hW.set (e := .inr (ci, fs.set j v)) he ⟨_, hc, t_OB.to (V := updV (vp_V fs) j v) ⟨_, e1, q2, q3, t_set q4 hap hj v⟩ (fun i _ => vp_updV_set hl v i)⟩ e2 e3 _)
theorem kk_putN (hx : p.tables.exec = Jvm.exec) (hb : c.code = cc) {own ref C host : String} {T : u_T} {N ci index : Nat} {Ts : List Cond} (hts : ∀ w ∈ Ts, w.before args s = true) (hown : s.vm.findClass own = some m.cls) (hE : kE D A s) (hW : kS D A s.heap ad w H locs) {fs : List Value} (he : w k = some (.inr (ci, fs))) (hc : vwCl[ci]? = some (C, T, N)) (hin : ∀ w ∈ u_ws C T N, w ∈ Ts) (ty0 : Nat → FieldType) (hty : ∀ k, k < N → parseFieldDescriptor (T k).2.2.1 = some (ty0 k)) (hnm : ∀ a, a < N → ∀ b, b < N → a ≠ b → (T a).2.1 ≠ (T b).2.1) (j : Nat) (hj : j < N) (hlink : va_Nw (.fieldLinkNest own index ref (T j).2.1 (T j).2.2.1 host) s) (hsame : ∀ x, s.fieldFound? (T j).1 (T j).2.1 (T j).2.2.1 = some x → s.fieldFound? ref (T j).2.1 (T j).2.2.1 = some x) (hfin : (T j).2.2.2 = false) {ty : FieldType} {v : Value} (hd : parseFieldDescriptor (T j).2.2.1 = some ty) (hn : narrow ty v = v) (hfit : fits ty v = true) (hl : j < fs.length)
    (hdg : decode cc pc = .ok (.putfield index, 3)) (kk : ∀ (H1 : Heap) (locs1 : List Loc) (w1 : kWd), w1 = va_up w k (some (.inr (ci, fs.set j v))) → kS D A s.heap ad w1 H1 locs1 → W p l e R s m args below meth c H1 locs1 cells slots Q (F0 m (pc + 3) ls rest)) : W p l e R s m args below meth c H locs cells slots Q (F0 m pc ls (v :: .ref (ad k) :: rest)) := by
  have hK := hE.K
  have hap := va_apart (own := own) hts hin ty0 hty hnm hK hc
  obtain ⟨r, h1, cell, q1, q2, q3, q4⟩ := hW.1 k _ he
  have hr : r = (C, T, N) := Option.some.inj (h1.symm.trans hc)
  subst hr
  obtain ⟨hS, hfc, kC, hkC, hkind⟩ := hK.1 ci _ hc
  obtain ⟨cf, kf, fi, f, hi, hsl⟩ := hS j hj
  have hlay := hts _ (hin _ (u_in_lay hj))
  unfold u_lay at hlay
  rw [if_neg (by rw [hfin]; decide)] at hlay
  have hst := (u_facts hfc hkC (u_lays hts hin hj) hi).1
  have h6 := u_store hfc hkC hkind hlay hi hd hn hfit
  refine va_WputK hx hb (f := f) hown (va_Nw.use rfl hlink) (hsame _ hi) hst (by rw [q2]; exact h6) q1 q3 (by rw [hsl]; exact k2_hasslot (q4 j hj)) rfl rfl hdg fun H' e1 e2 e3 => ?_
  rw [hsl] at e1 ⊢
  exact kk H' _ _ rfl (hW.set (e := .inr (ci, fs.set j v)) he ⟨_, hc, t_OB.to (V := updV (vp_V fs) j v) ⟨_, e1, q2, q3, t_set q4 hap hj v⟩ (fun i _ => vp_updV_set hl v i)⟩ e2 e3 _)
theorem kk_putF (hx : p.tables.exec = Jvm.exec) (hb : c.code = cc) {own ref C : String} {T : u_T} {N ci index : Nat} {Ts : List Cond} (hts : ∀ w ∈ Ts, w.before args s = true) (hown : s.vm.findClass own = some m.cls) (hE : kE D A s) (hW : kS D A s.heap ad w H locs) {fs : List Value} (he : w k = some (.inr (ci, fs))) (hc : vwCl[ci]? = some (C, T, N)) (hin : ∀ w ∈ u_ws C T N, w ∈ Ts) (ty0 : Nat → FieldType) (hty : ∀ k, k < N → parseFieldDescriptor (T k).2.2.1 = some (ty0 k)) (hnm : ∀ a, a < N → ∀ b, b < N → a ≠ b → (T a).2.1 ≠ (T b).2.1) (j : Nat) (hj : j < N) (hlink : (Cond.fieldLink own index ref (T j).2.1 (T j).2.2.1).before args s = true) (hsame : ∀ x, s.fieldFound? (T j).1 (T j).2.1 (T j).2.2.1 = some x → s.fieldFound? ref (T j).2.1 (T j).2.2.1 = some x) (hfin : (T j).2.2.2 = true) (hin2 : meth.name = "<init>") (hdecl : (T j).1 = own) {ty : FieldType} {v : Value} (hd : parseFieldDescriptor (T j).2.2.1 = some ty) (hn : narrow ty v = v) (hfit : fits ty v = true) (hl : j < fs.length)
    (hdg : decode cc pc = .ok (.putfield index, 3)) (kk : ∀ (H1 : Heap) (locs1 : List Loc) (w1 : kWd), w1 = va_up w k (some (.inr (ci, fs.set j v))) → kS D A s.heap ad w1 H1 locs1 → W p l e R s m args below meth c H1 locs1 cells slots Q (F0 m (pc + 3) ls rest)) : W p l e R s m args below meth c H locs cells slots Q (F0 m pc ls (v :: .ref (ad k) :: rest)) := by
  have hK := hE.K
  have hap := va_apart (own := own) hts hin ty0 hty hnm hK hc
  obtain ⟨r, h1, cell, q1, q2, q3, q4⟩ := hW.1 k _ he
  have hr : r = (C, T, N) := Option.some.inj (h1.symm.trans hc)
  subst hr
  obtain ⟨hS, hfc, kC, hkC, hkind⟩ := hK.1 ci _ hc
  obtain ⟨cf, kf, fi, f, hi, hsl⟩ := hS j hj
  have hlay := hts _ (hin _ (u_in_lay hj))
  unfold u_lay at hlay
  rw [if_pos hfin] at hlay
  have hst := (u_facts hfc hkC (u_lays hts hin hj) hi).1
  have hcf : m.cls = cf := by
    obtain ⟨_, _, c', _, _, _, -, -, hf', -, -, -, hown2, -⟩ := Cond.laysFinal_spec hlay
    have e1 : c' = cf := by have := hi.symm.trans hf'; simp at this; exact this.1.symm
    rw [hdecl] at hown2
    rw [← e1]; exact Option.some.inj (hown.symm.trans hown2)
  have h6 := u_fits hfc hkC hkind (Or.inr hlay) hi hd hn hfit
  refine W.putFinK hx hb hown hlink (hsame _ hi) hst hcf hin2 (by rw [q2]; exact h6) q1 q3 (by rw [hsl]; exact k2_hasslot (q4 j hj)) rfl rfl hdg fun H' e1 e2 e3 => ?_
  rw [hsl] at e1 ⊢
  exact kk H' _ _ rfl (hW.set (e := .inr (ci, fs.set j v)) he ⟨_, hc, t_OB.to (V := updV (vp_V fs) j v) ⟨_, e1, q2, q3, t_set q4 hap hj v⟩ (fun i _ => vp_updV_set hl v i)⟩ e2 e3 _)
theorem kk_iald (hx : p.tables.exec = Jvm.exec) (hb : c.code = cc) (hE : kE D A s) (hW : kS D A s.heap ad w H locs) {n : Nat} {f : Nat → Int32} (he : w k = some (.inl (D.1 100, n, .inl f))) {i : Int32} (hin : vp_in i n) (hdg : decode cc pc = .ok (.iaload, 1))
    (kk : W p l e R s m args below meth c H locs cells slots Q (F0 m (pc + 1) ls (.int (f i.toNatClampNeg) :: rest))) : W p l e R s m args below meth c H locs cells slots Q (F0 m pc ls (.int i :: .ref (ad k) :: rest)) :=
  va_iald hx hb hE.K (hW.P1 he) 0 0 rfl rfl hin hdg kk
theorem kk_aald (hx : p.tables.exec = Jvm.exec) (hb : c.code = cc) (hE : kE D A s) (hW : kS D A s.heap ad w H locs) (t0 : Nat) {cA : ClassId} {C : String} (ht : (kT D)[t0]? = some (cA, .object C)) {n : Nat} {f : Nat → Option Nat} (he : w k = some (.inl (cA, n, .inr (.inr (.inr (.inr f)))))) {i : Int32} (hin : vp_in i n) {v : Value} (hv : va_rf (f i.toNatClampNeg) = v) (hdg : decode cc pc = .ok (.aaload, 1))
    (kk : W p l e R s m args below meth c H locs cells slots Q (F0 m (pc + 1) ls (v :: rest))) : W p l e R s m args below meth c H locs cells slots Q (F0 m pc ls (.int i :: .ref (ad k) :: rest)) := by
  subst hv
  exact va_aldq hx hb hE.K (hW.P1 he) 0 t0 rfl ht hin hdg kk
theorem kk_alen (hx : p.tables.exec = Jvm.exec) (hb : c.code = cc) (hE : kE D A s) (hW : kS D A s.heap ad w H locs) (t0 : Nat) {cA : ClassId} {x : vp_A} (he : w k = some (.inl (cA, x))) {ty : FieldType} (ht : (kT D)[t0]? = some (cA, ty)) {v : Int32} (hv : Int32.ofNat x.1 = v) (hdg : decode cc pc = .ok (.arraylength, 1))
    (kk : W p l e R s m args below meth c H locs cells slots Q (F0 m (pc + 1) ls (.int v :: rest))) : W p l e R s m args below meth c H locs cells slots Q (F0 m pc ls (.ref (ad k) :: rest)) :=
  va_alen hx hb hE.K (hW.P1 he) 0 t0 rfl ht hv hdg kk
theorem kk_iast (hx : p.tables.exec = Jvm.exec) (hb : c.code = cc) (hE : kE D A s) (hW : kS D A s.heap ad w H locs) {n : Nat} {f : Nat → Int32} (he : w k = some (.inl (D.1 100, n, .inl f))) {i x : Int32} (hin : vp_in i n) (hdg : decode cc pc = .ok (.iastore, 1))
    (kk : ∀ (H1 : Heap) (locs1 : List Loc) (w1 : kWd), w1 = va_up w k (some (.inl (D.1 100, n, .inl (upd f i.toNatClampNeg x)))) → kS D A s.heap ad w1 H1 locs1 → W p l e R s m args below meth c H1 locs1 cells slots Q (F0 m (pc + 1) ls rest)) : W p l e R s m args below meth c H locs cells slots Q (F0 m pc ls (.int x :: .int i :: .ref (ad k) :: rest)) := by
  refine W.iast hx hb (hW.1 k _ he) ((hE.K.2 0 _ rfl).1 n (fun j => .int (f j))) (fun q => by cases q) (by show ¬ (i < 0 ∨ (arrV _ _ _).slots.size ≤ _); rw [arrV_size]; exact hin) rfl rfl hdg fun H1 e z oq => ?_
  refine kk H1 _ _ rfl (hW.set he ?_ z oq _)
  show H1[ad k]? = some (vp_cell _ _)
  rw [e]
  rw [vp_cell_i, vp_cell_i, arrV_store]
  congr 2
  funext q
  by_cases hq : q = i.toNatClampNeg
  · subst hq
    simp [updV, upd]
  · simp [updV, upd, hq]
theorem kk_aast (hx : p.tables.exec = Jvm.exec) (hb : c.code = cc) (hE : kE D A s) (hW : kS D A s.heap ad w H locs) (t0 : Nat) {E : String} {cA : ClassId} (ht : (kT D)[t0]? = some (cA, .object E)) {n : Nat} {f : Nat → Option Nat} (he : w k = some (.inl (cA, n, .inr (.inr (.inr (.inr f)))))) {kv ci : Nat} {vs : List Value} {r : vw_C} (hv : w kv = some (.inr (ci, vs))) (hc : vwCl[ci]? = some r) (hasg : ∀ comp c0 : ClassId, s.vm.findClass E = some comp → s.vm.findClass r.1 = some c0 → s.vm.assignable c0 comp = true) {i : Int32} (hin : vp_in i n) (hdg : decode cc pc = .ok (.aastore, 1))
    (kk : ∀ (H1 : Heap) (locs1 : List Loc) (w1 : kWd), w1 = va_up w k (some (.inl (cA, n, .inr (.inr (.inr (.inr (va_up f i.toNatClampNeg (some (ad kv))))))))) → kS D A s.heap ad w1 H1 locs1 → W p l e R s m args below meth c H1 locs1 cells slots Q (F0 m (pc + 1) ls rest)) : W p l e R s m args below meth c H locs cells slots Q (F0 m pc ls (.ref (ad kv) :: .int i :: .ref (ad k) :: rest)) := by
  have hlt : i.toNatClampNeg < n := Nat.not_le.mp fun q => hin (Or.inr q)
  have h0 : ¬ i < 0 := fun q => hin (Or.inl q)
  obtain ⟨cellV, g1, g3, ⟨kC, hkC⟩, hasg'⟩ := va_rAny hE.K (hW.P1 hv) (q0 := 0) rfl hc hasg
  obtain ⟨kA, comp, k1, k2, k3, -⟩ := (hE.K.2 t0 _ ht).2
  obtain ⟨kE, hkE, -⟩ := Vm.findClass_spec k3
  refine W.aast hx hb (hW.1 k _ he) (fun q h => by cases h) (fun h => by cases h) k1 k2 rfl hkE ⟨h0, by show _ < (arrV _ _ _).slots.size; rw [arrV_size]; exact hlt⟩ g1 (fun q h => by rw [h] at g3; cases g3) hkC (hasg' comp k3) rfl rfl hdg fun H1 e z oq => ?_
  refine kk H1 _ _ rfl (hW.set he ?_ z oq _)
  show H1[ad k]? = some (vp_cell _ _)
  rw [e]
  rw [vp_cell_q, vp_cell_q, arrV_store]
  congr 2
  funext q
  by_cases hq : q = i.toNatClampNeg
  · subst hq
    simp [updV, va_up, va_rf]
  · simp [updV, va_up, hq]
theorem kk_new (hx : p.tables.exec = Jvm.exec) (hb : c.code = cc) {own C : String} {T : u_T} {N ci index : Nat} {Ts : List Cond} (hts : ∀ w ∈ Ts, w.before args s = true) (hown : s.vm.findClass own = some m.cls) (hE : kE D A s) (hW : kS D A s.heap ad w H locs) (k : Nat) (hc : vwCl[ci]? = some (C, T, N)) (hin : ∀ w ∈ u_ws C T N, w ∈ Ts) (ty : Nat → FieldType) (hty : ∀ k, k < N → parseFieldDescriptor (T k).2.2.1 = some (ty k)) (hcl : (Cond.classLink own index C).before args s = true) (hinst : (Cond.instantiable C N).before args s = true) (hini : (Cond.initialized C).before args s = true)
    {fs : List Value} (hfs : ∀ j, j < N → defaultValue (ty j) = vp_V fs j) (hcells : cells + 1 ≤ R.cells) (hslots : slots + N ≤ R.slots) (hdg : decode cc pc = .ok (.new index, 3))
    (kk : ∀ (H1 : Heap) (ad1 : Nat → Nat) (w1 : kWd), ad1 = va_up ad k H.size → w1 = va_up w k (some (.inr (ci, fs))) → kS D A s.heap ad1 w1 H1 locs → W p l e R s m args below meth c H1 locs (cells + 1) (slots + N) Q (F0 m (pc + 3) ls (.ref (ad1 k) :: rest))) : W p l e R s m args below meth c H locs cells slots Q (F0 m pc ls rest) := by
  have hKn := hE.K.1 ci _ hc
  refine W.newcK hx hb hown hcl hinst hini rfl hdg hcells hslots hKn.2.1 rfl fun H1 kC hkC e1 z1 o1 => ?_
  have h9 := kk H1 _ _ rfl rfl (hW.push k ⟨_, hc, (u_born ty hts hin hKn hkC e1 hty).to hfs⟩ (by omega) o1)
  rw [va_up_self] at h9
  exact h9
theorem kk_newq (hx : p.tables.exec = Jvm.exec) (hb : c.code = cc) {own C : String} {index : Nat} (hown : s.vm.findClass own = some m.cls) (hclink : (Cond.classLink own index C).before args s = true) (hover : va_AO C s) (hE : kE D A s) (hW : kS D A s.heap ad w H locs) (k t0 : Nat) {cA : ClassId} (ht : (kT D)[t0]? = some (cA, .object C))
    {n : Int32} {N' : Nat} (hn : ¬ n < 0) (hN : n.toNatClampNeg = N') (hbytes : N' * 4 ≤ 536870912) (hcells : cells + 1 ≤ R.cells) (hslots : slots + N' ≤ R.slots) (hdg : decode cc pc = .ok (.anewarray index, 3))
    (kk : ∀ (H1 : Heap) (ad1 : Nat → Nat) (w1 : kWd), ad1 = va_up ad k H.size → w1 = va_up w k (some (.inl (cA, N', .inr (.inr (.inr (.inr (fun _ => none))))))) → kS D A s.heap ad1 w1 H1 locs → W p l e R s m args below meth c H1 locs (cells + 1) (slots + N') Q (F0 m (pc + 3) ls (.ref (ad1 k) :: rest))) : W p l e R s m args below meth c H locs cells slots Q (F0 m pc ls (.int n :: rest)) := by
  subst hN
  refine W.anew hx hb hown hclink (va_AO.use hover) rfl hdg rfl hn hbytes hcells hslots fun cB kA comp f1 f2 f3 f4 => ?_
  have hcB : cB = cA := by
    obtain ⟨-, -, -, -, -, h4⟩ := (hE.K.2 t0 _ ht).2
    exact Option.some.inj (f1.symm.trans h4)
  subst hcB
  generalize hH1 : H.push ({ cls := cB, slots := Array.replicate n.toNatClampNeg .null, vm := .none } : Cell) = H1
  have z1 : H1.size = H.size + 1 := by rw [← hH1, Array.size_push]
  have e1 : H1[H.size]? = some (arrV cB n.toNatClampNeg (fun _ => .null)) := by rw [← hH1, Array.getElem?_push_size, ← arrV_new]
  have o1 : ∀ q : Nat, q < H.size → H1[q]? = H[q]? := fun q hq => by rw [← hH1, Array.getElem?_push, if_neg (Nat.ne_of_lt hq)]
  have h9 := kk H1 _ _ rfl rfl (hW.push k (e := .inl (cB, n.toNatClampNeg, .inr (.inr (.inr (.inr (fun _ => none)))))) (by show H1[H.size]? = some (vp_cell _ _); rw [vp_cell_q]; exact e1) (by omega) o1)
  rw [va_up_self] at h9
  exact h9
theorem kk_newa (hx : p.tables.exec = Jvm.exec) (hb : c.code = cc) {atype : ArrayType} (harr : (Cond.arrayClass (newarray.typeOf atype)).before args s = true) {ty : FieldType} (hty : newarray.typeOf atype = ty) (hE : kE D A s) (hW : kS D A s.heap ad w H locs) (k t0 : Nat) {cA : ClassId} (ht : (kT D)[t0]? = some (cA, ty)) (hnm : va_RA s cA ty → s.vm.findClass ("[" ++ ty.toString) = some cA)
    {n : Int32} {N' : Nat} {a0 : vp_A} (ha : ∀ cA : ClassId, vp_cell cA a0 = arrV cA N' (fun _ => defaultValue ty)) (hn : ¬ n < 0) (hN : n.toNatClampNeg = N') (hbytes : N' * componentBytes ty ≤ 536870912) (hcells : cells + 1 ≤ R.cells) (hslots : slots + N' ≤ R.slots) (hdg : decode cc pc = .ok (.newarray atype, 2))
    (kk : ∀ (H1 : Heap) (ad1 : Nat → Nat) (w1 : kWd), ad1 = va_up ad k H.size → w1 = va_up w k (some (.inl (cA, a0))) → kS D A s.heap ad1 w1 H1 locs → W p l e R s m args below meth c H1 locs (cells + 1) (slots + N') Q (F0 m (pc + 2) ls (.ref (ad1 k) :: rest))) : W p l e R s m args below meth c H locs cells slots Q (F0 m pc ls (.int n :: rest)) := by
  subst hty
  refine va_newaK hx hb harr rfl hdg rfl hn hN hbytes hcells hslots rfl fun H1 cB e1 z1 o1 hAr hNm => ?_
  have hcB : cB = cA := Option.some.inj (hNm.symm.trans (hnm (hE.K.2 t0 _ ht).2))
  subst hcB
  have h9 := kk H1 _ _ rfl rfl (hW.push k (e := .inl (cB, a0)) (by show H1[H.size]? = some (vp_cell _ _); rw [ha]; exact e1) (by omega) o1)
  rw [va_up_self] at h9
  exact h9
end KR
