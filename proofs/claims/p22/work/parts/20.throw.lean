/-! what the class throws -/
abbrev xNM : List String := ["java/lang/RuntimeException", "java/lang/Exception"]
abbrev xIO : String := "java/lang/IndexOutOfBoundsException"
abbrev xIA : String := "java/lang/IllegalArgumentException"
abbrev xIS : String := "java/lang/IllegalStateException"
abbrev xNS : String := "java/util/NoSuchElementException"
/-- an exception's words: those that aren't good are of kN -/
def kFit (ik ic : Nat) (X : String) : Prop := Bundle.fit X = true ∧ (∀ n ∈ xNM, Bundle.fit n = true) ∧ (∀ w ∈ (vx_atS RX5 ic X xNM).filter (fun w => !goodWord w), w ∈ kN) ∧ ∀ w ∈ Cond.classLink RX5 ik X :: Cond.initialized X :: vx_atS RX5 ic X xNM, vx_ot w = true
theorem kf_IO : kFit 189 193 xIO := ⟨by decide +kernel, by decide +kernel, by decide +kernel, by decide +kernel⟩
theorem kf_IA : kFit 48 52 xIA := ⟨by decide +kernel, by decide +kernel, by decide +kernel, by decide +kernel⟩
theorem kf_IS : kFit 59 63 xIS := ⟨by decide +kernel, by decide +kernel, by decide +kernel, by decide +kernel⟩
theorem kf_NS : kFit 231 235 xNS := ⟨by decide +kernel, by decide +kernel, by decide +kernel, by decide +kernel⟩
theorem kN_tab : ∀ w ∈ kN, w.onTables = true := by decide +kernel
section KTH
variable {p : Program} {l : Launch} {e : Env} {R : Room} {s : State} {m : MethodId} {args : Array Value} {below : List Frame} {meth : Method} {c : Code} {H : Heap} {locs : List Loc} {cells slots : Nat}
variable {cc : ByteArray} {pc : Nat} {ls : Array Slot} {rest : List Value} {D : va_G} {A : Nat → Prop} {ad : Nat → Nat} {w : kWd} {mc ms : Nat} {Qc : Array Value → State → Outcome → State → Prop}
theorem kk_throw {ik ic is : Nat} {X tx : String} {px : String → Prop} (hf : kFit ik ic X) (hx : p.tables.exec = Jvm.exec) (hb : c.code = cc) (hnt : l.stackTraces = false) (hown : s.vm.findClass RX5 = some m.cls)
    (hg : ∀ w ∈ (vx_atS RX5 ic X xNM).filter goodWord, w.before args s = true) (hk : (Cond.classLink RX5 ik X).before args s = true) (hini : (Cond.initialized X).before args s = true) (hE : kE D A s) (hW : kS D A s.heap ad w H locs) (hsize : ls.size = c.maxLocals) (hstr : ∃ sa, vk_R RX5 is tx sa s)
    (d0 : decode cc pc = .ok (.new ik, 3)) (d3 : decode cc (pc + 3) = .ok (.dup, 1)) (d4 : decode cc (pc + 4) = .ok (.ldc is, 2)) (d6 : decode cc (pc + 6) = .ok (.invokespecial ic, 3)) (d9 : decode cc (pc + 9) = .ok (.athrow, 1))
    (hout : ∀ x ∈ c.exceptionTable.toList, False) (hR : 5 < R.frames ∧ (rest.map fun v => v.category).sum + 82 ≤ R.locals ∧ cells + 1 ≤ R.cells ∧ slots + 6 ≤ R.slots) (hlocks : meth.locks = false) (hp : px X) (hc : cells + 1 ≤ mc) (hs : slots + 6 ≤ ms) :
    W p l e R s m args below meth c H locs cells slots (vx_MQ below Qc (kX D A px ad w) args s mc ms A) (F0 m pc ls rest) := by
  obtain ⟨sa, hsa⟩ := hstr
  refine vx_throwS (A := A) hx hb hnt hown hf.1 hf.2.1 hk hini hsa (vx_hat hg hf.2.2.1 (fun w hw => va_Nw.use (kN_tab w hw) (hE.2.2.2.2.2.1 w hw))) hf.2.2.2 hE.2.1 hE.2.2.1 hW.2.2.1 hsize d0 d3 d4 d6 d9 (fun x hx => (hout x hx).elim) hR.1 hR.2.1 hR.2.2.1 hR.2.2.2 hlocks (fun t _ hz hq => ⟨(), trivial, ⟨hp, fun k x hk => (hW.1 k x hk).kept (hq _ (hW.1 k x hk).lt)⟩, ?_⟩) hW.2.2.1.2.2 hc hs
  exact ⟨Nat.le_trans hW.2.2.1.1 hz, fun q h1 h2 => (hq q (Nat.lt_of_lt_of_le h1 hW.2.2.1.1)).trans (hW.2.2.1.2.1 q h1 h2)⟩
theorem kk_cast (hx : p.tables.exec = Jvm.exec) (hb : c.code = cc) {own : String} {Q : State → Prop} {index k ci N : Nat} {nm : String} {T : u_T} {fs : List Value} (hown : s.vm.findClass own = some m.cls) (hlink : (Cond.classLink own index nm).before args s = true) (hE : kE D A s) (hW : kS D A s.heap ad w H locs) (he : w k = some (.inr (ci, fs))) (hc : vwCl[ci]? = some (nm, T, N)) (hdg : decode cc pc = .ok (.checkcast index, 3))
    (kk : W p l e R s m args below meth c H locs cells slots Q (F0 m (pc + 3) ls (.ref (ad k) :: rest))) : W p l e R s m args below meth c H locs cells slots Q (F0 m pc ls (.ref (ad k) :: rest)) :=
  va_castS hx hb hown hlink (hE.K.1 ci _ hc).2 (va_recv hE.K (hW.P1 he) (q0 := 0) hc rfl) hdg kk
end KTH
