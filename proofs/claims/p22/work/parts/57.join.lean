/-! joins, the script, calls that throw nothing -/
section KJ
variable {p : Program} {l : Launch} {e : Env} {R : Room} {s : State} {m : MethodId} {args : Array Value} {below : List Frame} {meth : Method} {c : Code} {H : Heap} {locs : List Loc} {cells slots : Nat} {Q : State → Prop}
variable {D : va_G} {A : Nat → Prop} {ad : Nat → Nat} {w : kWd}
theorem W_joinC {P : Int32 → Prop} {pj c1 s1 : Nat} {rj : List Value} {g : JFrame} {lj : Array Slot} (J : ∀ (v : Int32) (H : Heap) (locs : List Loc), P v → kS D A s.heap ad w H locs → W p l e R s m args below meth c H locs c1 s1 Q (F0 m pj lj (.int v :: rj)))
    (kk : (∀ (v : Int32) (H : Heap) (locs : List Loc) (c0 s0 : Nat), c0 ≤ c1 → s0 ≤ s1 → P v → kS D A s.heap ad w H locs → W p l e R s m args below meth c H locs c0 s0 Q (F0 m pj lj (.int v :: rj))) → W p l e R s m args below meth c H locs cells slots Q g) : W p l e R s m args below meth c H locs cells slots Q g :=
  kk (fun v H locs _ _ h1 h2 hp hW => W.widen h1 h2 (J v H locs hp hW))
end KJ
/-- a method's start, with the script -/
def kPx (D : va_G) (A : Nat → Prop) (av : List Value) (ad : Nat → Nat) (w : kWd) (b L : Nat) (xs : Nat → Int32) : Array Value → State → Prop := va_Pc av (fun U => (kE D A U ∧ kW D ad w U.heap ∧ kI A ad w ∧ ∀ q : Nat, U.heap.size ≤ q → A q) ∧ va_X b L xs U U.heap ∧ b < U.heap.size ∧ ¬ A b)
theorem kPx.bl {D : va_G} {A : Nat → Prop} {av : List Value} {ad : Nat → Nat} {w : kWd} {b L : Nat} {xs : Nat → Int32} : FrameBlind (kPx D A av ad w b L xs) := fun a U g mk q => ⟨q.1, ⟨q.2.1.1.call, q.2.1.2⟩, va_X.moved (U := U.calling g mk a) (State.WarmedH.refl U).alike q.2.2.1, q.2.2.2⟩
theorem kPx.at {D : va_G} {A : Nat → Prop} {s U : State} {ad : Nat → Nat} {w : kWd} {H : Heap} {locs : List Loc} {b L : Nat} {xs : Nat → Int32} (hE : kE D A s) (hW : kS D A s.heap ad w H locs) (hX : va_X b L xs s s.heap) (hbl : b < s.heap.size) (hbA : ¬ A b) (av : List Value) (hU : U.heap = H) (hw : s.WarmedH U.vm) : kPx D A av ad w b L xs av.toArray U := by
  subst hU
  exact ⟨rfl, ⟨hE.to hw (fun a h1 h2 => hW.2.2.1.2.1 a h1 h2), hW.1, hW.2.1, fun q h => hW.2.2.2 q (Nat.le_trans hW.2.2.1.1 h)⟩, va_X.moved hw.alike (hX.kept (hW.2.2.1.2.1 b hbl hbA)), Nat.lt_of_lt_of_le hbl hW.2.2.1.1, hbA⟩
theorem kStx {D : va_G} {A : Nat → Prop} {s : State} {ad : Nat → Nat} {w : kWd} {H : Heap} {locs : List Loc} {b L : Nat} {xs : Nat → Int32} (hE : kE D A s) (hW : kS D A s.heap ad w H locs) (hX : va_X b L xs s s.heap) (hbl : b < s.heap.size) (hbA : ¬ A b) (As : List Value) : PreS s H (kPx D A As ad w b L xs) As := ⟨kPx.bl, fun U hU hw => kPx.at hE hW hX hbl hbA _ hU hw⟩
section NF
variable {S : St} {nT nC nD nM nZ : Nat} {E : String}
theorem no_ro {j : Nat} (hj : j < 12) : noK (nI j) = 0 := noK_0 (roP_iff.mpr ⟨j, hj, rfl⟩)
theorem no_so {b k : Nat} (hb : b < 3) (hk : k < 2) : soK (nI b) (nI k) = 0 := soK_0 ⟨inP_of (n := 2) (by decide) (by omega), inP_of (n := 1) (by decide) (by omega)⟩
theorem nv_so {b k : Nat} (hb : b < 3) (hk : k < 2) : nv (2 * nI b + nI k) = 2 * b + k := by
  rw [nI_2, nI_add]
  exact nv_nI (by omega)
theorem no_vr (hN : SN S nT nC nD nM nZ) {a j : Nat} (ha : a ≤ nM) (hj : j < 12) : vrK S (nI a) (nI j) = 0 := vrK_0 (roP_iff.mpr ⟨j, hj, rfl⟩) (by rw [hN.2.2.2.1]; exact inP_of (by have := hN.2.2.2.2.2.2.2.2.1; omega) ha)
theorem nf_ro {j : Nat} (hj : j < 12) (h : E = xIO ∧ noK (nI j) = 1) : False := absurd h.2 (by rw [no_ro hj]; decide)
theorem nf_so {b k : Nat} (hb : b < 3) (hk : k < 2) (h : E = xIO ∧ soK (nI b) (nI k) = 1) : False := absurd h.2 (by rw [no_so hb hk]; decide)
theorem nf_vr (hN : SN S nT nC nD nM nZ) {a j : Nat} (ha : a ≤ nM) (hj : j < 12) (h : (E = xIO ∧ vrK S (nI a) (nI j) = 1) ∨ (E = xIA ∧ vrK S (nI a) (nI j) = 2)) : False := by
  rw [no_vr hN ha hj] at h
  rcases h with ⟨-, h⟩ | ⟨-, h⟩
  · exact absurd h (by decide)
  · exact absurd h (by decide)
theorem trP_t (hN : SN S nT nC nD nM nZ) {t : Nat} (ht : t < nT) : trP S (nI t) := (trP_iff hN).mpr ⟨t, ht, rfl⟩
theorem actP_t {t : Nat} (ht : t < 60) : actP S (nI t) ↔ S 1 t = 0 := by
  unfold actP
  rw [nvT ht]
theorem mI_lt {t : Nat} (ht : t < 2 ^ 31) : ¬ nI t < 0 := nI_pos ht
end NF
