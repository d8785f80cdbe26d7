/-! ends and calls over worlds by keys -/
section KE
variable {p : Program} {l : Launch} {e : Env} {R : Room} {s : State} {m : MethodId} {args : Array Value} {below : List Frame} {meth : Method} {c : Code} {H : Heap} {locs : List Loc} {cells slots : Nat} {Q : State → Prop}
variable {cc : ByteArray} {pc : Nat} {ls : Array Slot} {rest st0 : List Value} {D : va_G} {A : Nat → Prop} {ad : Nat → Nat} {w : kWd} {k mc ms : Nat} {a : Array Value}
theorem ke_i {post : Int32 → (Nat → Nat) → kWd → Prop} {v : Int32} (hx : p.tables.exec = Jvm.exec) (hb : c.code = cc) (hr : meth.sig.returnType = some .int) (hlocks : meth.locks = false) (hc : cells ≤ mc) (hs : slots ≤ ms) (hdg : decode cc pc = .ok (.ireturn, 1)) (hW : kS D A s.heap ad w H locs) (hp : post v ad w) :
    W p l e R s m args below meth c H locs cells slots (MQ below (kQi D A post) args s mc ms A) (F0 m pc ls [.int v]) :=
  W.widen hc hs (W.iret hx hb hr (fun t ht _ => ⟨⟨v, (ad, w), rfl, hp, by rw [ht]; exact hW.1, hW.2.1⟩, hW.2.2.1.F ht⟩) hW.2.2.1.2.2 hdg hlocks)
theorem ke_z {post : Int32 → (Nat → Nat) → kWd → Prop} {v : Int32} (hx : p.tables.exec = Jvm.exec) (hb : c.code = cc) (hr : meth.sig.returnType = some .boolean) (hlocks : meth.locks = false) (hc : cells ≤ mc) (hs : slots ≤ ms) (hdg : decode cc pc = .ok (.ireturn, 1)) (hv : v = 0 ∨ v = 1) (hW : kS D A s.heap ad w H locs) (hp : post v ad w) :
    W p l e R s m args below meth c H locs cells slots (MQ below (kQi D A post) args s mc ms A) (F0 m pc ls [.int v]) :=
  W.widen hc hs (W.zret hx hb hr (by rcases hv with rfl | rfl <;> decide) (fun t ht _ => ⟨⟨v, (ad, w), rfl, hp, by rw [ht]; exact hW.1, hW.2.1⟩, hW.2.2.1.F ht⟩) hW.2.2.1.2.2 hdg hlocks)
theorem ke_v {post : (Nat → Nat) → kWd → Prop} (hx : p.tables.exec = Jvm.exec) (hb : c.code = cc) (hr : meth.sig.returnType = none) (hlocks : meth.locks = false) (hc : cells ≤ mc) (hs : slots ≤ ms) (hdg : decode cc pc = .ok (.return_, 1)) (hW : kS D A s.heap ad w H locs) (hp : post ad w) :
    W p l e R s m args below meth c H locs cells slots (MQ below (kQv D A post) args s mc ms A) (F0 m pc ls []) :=
  W.widen hc hs (W.vret hx hb hr (fun t ht _ => ⟨⟨(ad, w), rfl, hp, by rw [ht]; exact hW.1, hW.2.1⟩, hW.2.2.1.F ht⟩) hW.2.2.1.2.2 hdg hlocks)
theorem ke_q {post : Option Nat → (Nat → Nat) → kWd → Prop} {v : Value} {r : Option Nat} {rt : FieldType} (hx : p.tables.exec = Jvm.exec) (hb : c.code = cc) (hr : meth.sig.returnType = some rt) (hrt : (∃ n, rt = .object n) ∨ ∃ t, rt = .array t) (hlocks : meth.locks = false) (hc : cells ≤ mc) (hs : slots ≤ ms) (hdg : decode cc pc = .ok (.areturn, 1)) (hv : v = va_rf r) (hW : kS D A s.heap ad w H locs) (hp : post r ad w) :
    W p l e R s m args below meth c H locs cells slots (MQ below (kQq D A post) args s mc ms A) (F0 m pc ls [v]) := by
  subst hv
  exact W.widen hc hs (W.aret hx hb hr hrt (va_rf_or r) (fun t ht _ => ⟨⟨r, (ad, w), rfl, hp, by rw [ht]; exact hW.1, hW.2.1⟩, hW.2.2.1.F ht⟩) hW.2.2.1.2.2 hdg hlocks)
/-- a call by name on a thing of the world -/
theorem kV {C : String} {T : u_T} {N ci : Nat} {fs : List Value} (hE : kE D A s) (hW : kS D A s.heap ad w H locs) (he : w k = some (.inr (ci, fs))) (hc : vwCl[ci]? = some (C, T, N)) (As : List Value) : PreV s H C (ad k) (kPc D A (.ref (ad k) :: As) ad w) As :=
  ⟨kPc.bl, va_recv hE.K (hW.P1 he) (q0 := 0) hc rfl, fun U hU hw => kPc.at hE hW _ hU hw⟩
theorem kSt (hE : kE D A s) (hW : kS D A s.heap ad w H locs) (As : List Value) : PreS s H (kPc D A As ad w) As := ⟨kPc.bl, fun U hU hw => kPc.at hE hW _ hU hw⟩
theorem kk_i {post : Int32 → (Nat → Nat) → kWd → Prop} (hr : va_Run p l e R s m args below meth c H locs cells slots mc ms (F0 m pc ls st0) rest (kQi D A post a) A) (hW : kS D A s.heap ad w H locs)
    (kk : ∀ (r : Int32) (ad1 : Nat → Nat) (w1 : kWd) (H1 : Heap) (locs1 : List Loc), post r ad1 w1 → kS D A s.heap ad1 w1 H1 locs1 → W p l e R s m args below meth c H1 locs1 (cells + mc) (slots + ms) Q (F0 m (pc + 3) ls (.int r :: rest))) : W p l e R s m args below meth c H locs cells slots Q (F0 m pc ls st0) :=
  va_calli hr hW.2.2.1 (fun _ _ h => h) (fun _ h => h) (fun r u t H1 locs1 ht _ hp hB _ _ hS => kk r u.1 u.2 H1 locs1 hp ⟨by rw [← ht]; exact hB.1, hB.2, hS, hW.2.2.2⟩)
theorem kk_v {post : (Nat → Nat) → kWd → Prop} (hr : va_Run p l e R s m args below meth c H locs cells slots mc ms (F0 m pc ls st0) rest (kQv D A post a) A) (hW : kS D A s.heap ad w H locs)
    (kk : ∀ (ad1 : Nat → Nat) (w1 : kWd) (H1 : Heap) (locs1 : List Loc), post ad1 w1 → kS D A s.heap ad1 w1 H1 locs1 → W p l e R s m args below meth c H1 locs1 (cells + mc) (slots + ms) Q (F0 m (pc + 3) ls rest)) : W p l e R s m args below meth c H locs cells slots Q (F0 m pc ls st0) :=
  va_callv hr hW.2.2.1 (fun _ _ h => h) (fun _ h => h) (fun u t H1 locs1 ht _ hp hB _ _ hS => kk u.1 u.2 H1 locs1 hp ⟨by rw [← ht]; exact hB.1, hB.2, hS, hW.2.2.2⟩)
theorem kk_q {post : Option Nat → (Nat → Nat) → kWd → Prop} (hr : va_Run p l e R s m args below meth c H locs cells slots mc ms (F0 m pc ls st0) rest (kQq D A post a) A) (hW : kS D A s.heap ad w H locs)
    (kk : ∀ (r : Option Nat) (ad1 : Nat → Nat) (w1 : kWd) (H1 : Heap) (locs1 : List Loc), post r ad1 w1 → kS D A s.heap ad1 w1 H1 locs1 → W p l e R s m args below meth c H1 locs1 (cells + mc) (slots + ms) Q (F0 m (pc + 3) ls (va_rf r :: rest))) : W p l e R s m args below meth c H locs cells slots Q (F0 m pc ls st0) :=
  va_callq hr hW.2.2.1 (fun _ _ h => h) (fun _ h => h) (fun r u t H1 locs1 ht _ hp hB _ _ hS => kk r u.1 u.2 H1 locs1 hp ⟨by rw [← ht]; exact hB.1, hB.2, hS, hW.2.2.2⟩)
/-- .. that may throw -/
abbrev kXk (p : Program) (l : Launch) (e : Env) (R : Room) (s : State) (m : MethodId) (args : Array Value) (below : List Frame) (meth : Method) (c : Code) (cells slots mc ms : Nat) (Q : State → Prop) (pc : Nat) (ls : Array Slot) (rest : List Value) (D : va_G) (A : Nat → Prop) (ad : Nat → Nat) (w : kWd) (px : String → Prop) : Prop :=
  ∀ (E : String) (ce : Cell) (q9 : Addr) (H1 : Heap) (locs1 : List Loc), px E → kS D A s.heap ad w H1 locs1 → H1[q9]? = some ce → ce.vm = .none → s.vm.findClass E = some ce.cls → vx_W p l e R s m args below meth c H1 locs1 (cells + mc) (slots + ms) Q (F0 m pc ls rest) q9
theorem kx_i {post : Int32 → (Nat → Nat) → kWd → Prop} {px : String → Prop} (hr : vx_Run p l e R s m args below meth c H locs cells slots mc ms (F0 m pc ls st0) rest (kQi D A post a) (kX D A px ad w) A) (hW : kS D A s.heap ad w H locs)
    (kx : kXk p l e R s m args below meth c cells slots mc ms Q pc ls rest D A ad w px)
    (kk : ∀ (r : Int32) (ad1 : Nat → Nat) (w1 : kWd) (H1 : Heap) (locs1 : List Loc), post r ad1 w1 → kS D A s.heap ad1 w1 H1 locs1 → W p l e R s m args below meth c H1 locs1 (cells + mc) (slots + ms) Q (F0 m (pc + 3) ls (.int r :: rest))) : W p l e R s m args below meth c H locs cells slots Q (F0 m pc ls st0) :=
  vx_calli hr hW.2.2.1 (fun _ _ h => h) (fun _ h => h) (fun _ _ h => h) (fun E ce q9 _ t H1 locs1 ht _ _ hB _ _ hS h1 h2 h3 => kx E ce q9 H1 locs1 hB.1 ⟨by rw [← ht]; exact hB.2, hW.2.1, hS, hW.2.2.2⟩ h1 h2 h3) (fun r u t H1 locs1 ht _ hp hB _ _ hS => kk r u.1 u.2 H1 locs1 hp ⟨by rw [← ht]; exact hB.1, hB.2, hS, hW.2.2.2⟩)
theorem kx_v {post : (Nat → Nat) → kWd → Prop} {px : String → Prop} (hr : vx_Run p l e R s m args below meth c H locs cells slots mc ms (F0 m pc ls st0) rest (kQv D A post a) (kX D A px ad w) A) (hW : kS D A s.heap ad w H locs)
    (kx : kXk p l e R s m args below meth c cells slots mc ms Q pc ls rest D A ad w px)
    (kk : ∀ (ad1 : Nat → Nat) (w1 : kWd) (H1 : Heap) (locs1 : List Loc), post ad1 w1 → kS D A s.heap ad1 w1 H1 locs1 → W p l e R s m args below meth c H1 locs1 (cells + mc) (slots + ms) Q (F0 m (pc + 3) ls rest)) : W p l e R s m args below meth c H locs cells slots Q (F0 m pc ls st0) :=
  vx_callv hr hW.2.2.1 (fun _ _ h => h) (fun _ h => h) (fun _ _ h => h) (fun E ce q9 _ t H1 locs1 ht _ _ hB _ _ hS h1 h2 h3 => kx E ce q9 H1 locs1 hB.1 ⟨by rw [← ht]; exact hB.2, hW.2.1, hS, hW.2.2.2⟩ h1 h2 h3) (fun u t H1 locs1 ht _ hp hB _ _ hS => kk u.1 u.2 H1 locs1 hp ⟨by rw [← ht]; exact hB.1, hB.2, hS, hW.2.2.2⟩)
theorem kx_q {post : Option Nat → (Nat → Nat) → kWd → Prop} {px : String → Prop} (hr : vx_Run p l e R s m args below meth c H locs cells slots mc ms (F0 m pc ls st0) rest (kQq D A post a) (kX D A px ad w) A) (hW : kS D A s.heap ad w H locs)
    (kx : kXk p l e R s m args below meth c cells slots mc ms Q pc ls rest D A ad w px)
    (kk : ∀ (r : Option Nat) (ad1 : Nat → Nat) (w1 : kWd) (H1 : Heap) (locs1 : List Loc), post r ad1 w1 → kS D A s.heap ad1 w1 H1 locs1 → W p l e R s m args below meth c H1 locs1 (cells + mc) (slots + ms) Q (F0 m (pc + 3) ls (va_rf r :: rest))) : W p l e R s m args below meth c H locs cells slots Q (F0 m pc ls st0) := by
  intro T hT X
  rcases hr T hT X with ⟨v, st₀, t, T', L, h0, X', hL, e1, e2, ⟨⟨r, u, hv, hp, hb⟩, hF⟩, st⟩ | ⟨q, st₀, t, T', L, E, ce, h0, X', hL, e1, e2, ⟨u, hp, hb, hF⟩, hce, hcv, hcl, st⟩
  · cases hv
    obtain ⟨k1, k2, k3⟩ := vx_keep h0 e1 hW.2.2.1 (fun _ _ h => h) (fun _ h => h) hL hF
    obtain ⟨t2, a1, b1⟩ := kk r u.1 u.2 T'.heap (locs ++ L) hp ⟨by rw [e1]; exact hb.1, hb.2, k3, hW.2.2.2⟩ T' rfl X'
    exact ⟨t2, st t2 a1, b1⟩
  · obtain ⟨k1, k2, k3⟩ := vx_keep h0 e1 hW.2.2.1 (fun _ _ h => h) (fun _ h => h) hL hF
    obtain ⟨t2, a1, b1⟩ := kx E ce q T'.heap (locs ++ L) hb.1 ⟨by rw [e1]; exact hb.2, hW.2.1, k3, hW.2.2.2⟩ (by rw [e1]; exact hce) hcv hcl T' rfl X'
    exact ⟨t2, st.trans a1, b1⟩
/-- what is thrown below goes on to the caller -/
theorem kx_out {Qc : Array Value → State → Outcome → State → Prop} {mc0 ms0 : Nat} {px px0 : String → Prop} {ad0 : Nat → Nat} {w0 : kWd} (hout : ∀ x ∈ c.exceptionTable.toList, False) (hlocks : meth.locks = false) (hc : cells + mc0 ≤ mc) (hs : slots + ms0 ≤ ms) (h0 : ∀ E, px0 E → px E ∧ ad0 = ad ∧ w0 = w) :
    kXk p l e R s m args below meth c cells slots mc0 ms0 (vx_MQ below Qc (kX D A px ad w) args s mc ms A) pc ls rest D A ad0 w0 px0 := by
  intro E ce q9 H1 locs1 hp hW h1 h2 h3
  obtain ⟨p1, rfl, rfl⟩ := h0 E hp
  exact vx_out (fun x hx => (hout x hx).elim) hlocks h1 h2 h3 (fun t ht _ => ⟨(), trivial, ⟨p1, by rw [ht]; exact hW.1⟩, hW.2.2.1.F ht⟩) hW.2.2.1.2.2 hc hs
theorem W_join {P : Int32 → Prop} {pj : Nat} {rj : List Value} {g : JFrame} {lj : Array Slot} (J : ∀ v : Int32, P v → W p l e R s m args below meth c H locs cells slots Q (F0 m pj lj (.int v :: rj)))
    (kk : (∀ v : Int32, P v → W p l e R s m args below meth c H locs cells slots Q (F0 m pj lj (.int v :: rj))) → W p l e R s m args below meth c H locs cells slots Q g) : W p l e R s m args below meth c H locs cells slots Q g := kk J
theorem W_joinH {P : Int32 → Prop} {pj : Nat} {rj : List Value} {g : JFrame} {lj : Array Slot} (J : ∀ (v : Int32) (H : Heap) (locs : List Loc), P v → kS D A s.heap ad w H locs → W p l e R s m args below meth c H locs cells slots Q (F0 m pj lj (.int v :: rj)))
    (kk : (∀ (v : Int32) (H : Heap) (locs : List Loc), P v → kS D A s.heap ad w H locs → W p l e R s m args below meth c H locs cells slots Q (F0 m pj lj (.int v :: rj))) → W p l e R s m args below meth c H locs cells slots Q g) : W p l e R s m args below meth c H locs cells slots Q g := kk J
theorem W_join0 {P : Prop} {pj : Nat} {rj : List Value} {g : JFrame} {lj : Array Slot} (J : P → W p l e R s m args below meth c H locs cells slots Q (F0 m pj lj rj))
    (kk : (P → W p l e R s m args below meth c H locs cells slots Q (F0 m pj lj rj)) → W p l e R s m args below meth c H locs cells slots Q g) : W p l e R s m args below meth c H locs cells slots Q g := kk J
end KE
