/-! between the class's calls and the reference's: frames; states with another 16 or 17 -/
section BR
variable {D : va_G} {S S' N : St} {ad ad' : Nat → Nat} {w w' w0 : kWd} {nT nC nD nM nZ : Nat}
theorem CW.fr (h : CW D S ad w nT nC) (hN : SN S nT nC nD nM nZ) (hw : ∀ k, k < 2000 → w' k = w k) (ha : ∀ k, k < 2000 → ad' k = ad k) : CW D S ad' w' nT nC := by
  have h60 := hN.2.2.2.2.2.1
  have h512 := hN.2.2.2.2.2.2.1
  have at9 : ∀ t, t < nT → ad' (tkey t) = ad (tkey t) := fun t ht => ha _ (by show 100 + 2 * t < 2000; omega)
  have ac9 : ∀ k, k < nC → ad' (ckey k) = ad (ckey k) := fun t ht => ha _ (by show 101 + 2 * t < 2000; omega)
  refine ⟨?_, ?_, ?_, h.lt.keep (hw _ (by omega)) (hw _ (by omega)) (ha _ (by omega)) at9, h.lc.keep (hw _ (by omega)) (hw _ (by omega)) (ha _ (by omega)) ac9, fun b hb => ⟨?_, ?_⟩, fun j hj => ?_, fun r hr => ?_, fun t ht => ?_, fun k hk => ?_⟩
  · rw [hw 0 (by omega), h.u]
    show some (uCell ad S) = some (uCell ad' S)
    unfold uCell
    rw [ha 1 (by omega), ha 2 (by omega), ha 3 (by omega), ha 4 (by omega)]
  · obtain ⟨f, g1, g2⟩ := h.bs
    exact ⟨f, (hw 1 (by omega)).trans g1, fun i hi => by rw [g2 i hi, ha (10 + i) (by omega)]⟩
  · obtain ⟨f, g1, g2⟩ := h.rs
    exact ⟨f, (hw 2 (by omega)).trans g1, fun i hi => by rw [g2 i hi, ha (24 + i) (by omega)]⟩
  · rw [hw (10 + b) (by omega), h.b hb, ha (13 + b) (by omega)]
  · obtain ⟨f, g1, g2⟩ := h.sa hb
    exact ⟨f, (hw (13 + b) (by omega)).trans g1, fun i hi => by rw [g2 i hi, ha (16 + (2 * b + i)) (by omega)]⟩
  · rw [hw (16 + j) (by omega), h.s hj]
    show some (sCell ad S j) = some (sCell ad' S j)
    unfold sCell
    rw [show hold ad' S j = hold ad S j from by
      rcases hN.sl hj with q | ⟨t, ht, q⟩
      · rw [hold_n q, hold_n q]
      · rw [hold_s q (by omega), hold_s q (by omega), at9 t ht]]
  · rw [hw (24 + r) (by omega), h.r hr]
    show some (rCell ad S r) = some (rCell ad' S r)
    unfold rCell
    rw [ha (10 + r / 4) (by omega)]
  · rw [hw (tkey t) (by show 100 + 2 * t < 2000; omega), h.t ht]
  · rw [hw (ckey k) (by show 101 + 2 * k < 2000; omega), h.c hk]
    show some (cCell ad S k) = some (cCell ad' S k)
    obtain ⟨t, ht, h4⟩ := hN.by hk
    obtain ⟨r, hr, h5⟩ := hN.ro hk
    unfold cCell
    rw [h4, h5, nv_nI (by omega), nv_nI (by omega), at9 t ht, ha (24 + r) (by omega)]
theorem MW.mv (h : MW D S ad w0 w) (hw : ∀ k, 2000 ≤ k → k ≤ 2010 → w' k = w k) (ha : ∀ k, 2000 ≤ k → k ≤ 2010 → ad' k = ad k) : MW D S ad' w' w' := by
  refine ⟨?_, (hw _ (by decide) (by decide)).trans h.a0, (hw _ (by decide) (by decide)).trans h.a1, (hw _ (by decide) (by decide)).trans h.a2, (hw _ (by decide) (by decide)).trans h.a3, (hw _ (by decide) (by decide)).trans h.a4, (hw _ (by decide) (by decide)).trans h.a5, (hw _ (by decide) (by decide)).trans h.a6, (hw _ (by decide) (by decide)).trans h.a7, (hw _ (by decide) (by decide)).trans h.a8, (hw _ (by decide) (by decide)).trans h.a9, FrM.rf⟩
  rw [hw 2000 (by decide) (by decide), h.o]
  unfold mF
  rw [ha 2001 (by decide) (by decide), ha 2002 (by decide) (by decide), ha 2003 (by decide) (by decide), ha 2004 (by decide) (by decide), ha 2005 (by decide) (by decide), ha 2006 (by decide) (by decide), ha 2007 (by decide) (by decide), ha 2008 (by decide) (by decide), ha 2009 (by decide) (by decide), ha 2010 (by decide) (by decide)]
theorem lkL_c {r : Int32} (h4 : S' 4 = S 4) (h5 : S' 5 = S 5) (h7 : S' 7 = S 7) : ∀ n : Nat, lkL S' r n = lkL S r n
  | 0 => rfl
  | n + 1 => by
    show (if S' 5 n = r ∧ S' 7 n = 0 then S' 4 n else lkL S' r n) = (if S 5 n = r ∧ S 7 n = 0 then S 4 n else lkL S r n)
    rw [lkL_c h4 h5 h7 n, h4, h5, h7]
theorem lockV_17 {x r : Int32} : lockV (sS S 17 x) r = lockV S r := by
  unfold lockV
  rw [show (sS S 17 x) 13 0 = S 13 0 from rfl, lkL_c (S := S) (S' := sS S 17 x) rfl rfl rfl]
  rfl
theorem stV_17 {x t : Int32} : stV (sS S 17 x) t = stV S t := stL_c (S := S) (S' := sS S 17 x) rfl rfl _
theorem utA_e {t : Int32} : utA S t = stV S t := stV_17
theorem wrP_17 {z t r v : Int32} : wrP (sS S 17 z) t r v ↔ wrP S t r v := by
  show canP (sS S 17 z) t r v ∧ (lockV (sS S 17 z) r = -1 ∨ lockV (sS S 17 z) r = t) ∧ slF (sS S 17 z) t (nv r / 4) ≠ -1 ∧ spP (sS S 17 z) ↔ canP S t r v ∧ (lockV S r = -1 ∨ lockV S r = t) ∧ slF S t (nv r / 4) ≠ -1 ∧ spP S
  rw [lockV_17]
  exact Iff.rfl
theorem wrK_17 {z t r v : Int32} : wrK (sS S 17 z) t r v = wrK S t r v := by
  by_cases a : trP S t ∧ roP r
  · by_cases b : goodP v
    · by_cases c : wrP S t r v
      · rw [wrK_0 a b c, wrK_0 (S := sS S 17 z) a b (wrP_17.mpr c)]
      · rw [wrK_3 a b c, wrK_3 (S := sS S 17 z) a b (fun q => c (wrP_17.mp q))]
    · rw [wrK_2 a b, wrK_2 (S := sS S 17 z) a b]
  · rw [wrK_1 a, wrK_1 (S := sS S 17 z) a]
theorem clean1_d {d k : Nat} {x : Int32} (h1 : d ≠ 1) (h8 : d ≠ 8) (h9 : d ≠ 9) (h15 : d ≠ 15) : clean1 (sS S d x) k = sS (clean1 S k) d x := by
  have e := endP_c (S := S) (T := sS S d x) (sU_n (Ne.symm h8)) (sU_n (Ne.symm h1)) (sU_n (Ne.symm h9)) k
  unfold clean1
  by_cases c : endP S k
  · rw [if_pos c, if_pos (e.mpr c)]
    funext a
    have q15 : (sS S d x) 15 = S 15 := sU_n (Ne.symm h15)
    have q9 : (sS S d x) 9 = S 9 := sU_n (Ne.symm h9)
    unfold sA
    rw [q15, q9]
    by_cases b1 : a = d
    · subst b1
      exact ((sU_n h15).trans ((sU_n h9).trans sU_s)).trans sU_s.symm
    · by_cases b2 : a = 15
      · subst b2
        exact sU_s.trans ((sU_n b1).trans sU_s).symm
      · by_cases b3 : a = 9
        · subst b3
          exact ((sU_n b2).trans sU_s).trans ((sU_n b1).trans ((sU_n b2).trans sU_s)).symm
        · exact ((sU_n b2).trans ((sU_n b3).trans (sU_n b1))).trans ((sU_n b1).trans ((sU_n b2).trans (sU_n b3))).symm
  · rw [if_neg c, if_neg (fun z => c (e.mp z))]
theorem cleanS_d {d b : Nat} {x : Int32} (h1 : d ≠ 1) (h8 : d ≠ 8) (h9 : d ≠ 9) (h15 : d ≠ 15) : cleanS (sS S d x) b = sS (cleanS S b) d x := by
  unfold cleanS
  rw [clean1_d h1 h8 h9 h15, clean1_d h1 h8 h9 h15]
/-! the reference's next states -/
theorem ssN_0 {z : Int32} (h : ssK S z = 0) : ssN S z = sS (sS S 17 0) 10 z := by rw [show ssN S z = _ from if_pos h, h]
theorem ssN_n {z : Int32} (h : ¬ ssK S z = 0) : ssN S z = sS S 17 (ssK S z) := if_neg h
theorem bgN_0 (h : bgK S = 0) : bgN S = bgM (sS S 17 0) := by rw [show bgN S = _ from if_pos h, h]; rfl
theorem bgN_n (h : ¬ bgK S = 0) : bgN S = sS S 17 (bgK S) := if_neg h
theorem wrN_0 {t r v : Int32} (h : wrK S t r v = 0) : wrN S t r v = wrM (sS S 17 0) t r v := by rw [show wrN S t r v = _ from if_pos h, h]
theorem wrN_n {t r v : Int32} (h : ¬ wrK S t r v = 0) : wrN S t r v = sS S 17 (wrK S t r v) := if_neg h
theorem utK_0 {t k : Int32} (h : opK S t = 0) (h2 : inP k 0 (stV S t)) : utK S t k = 0 := by
  rw [show utK S t k = _ from if_pos h]
  exact if_pos (by rw [utA_e]; exact h2)
theorem utK_3 {t k : Int32} (h : opK S t = 0) (h2 : ¬ inP k 0 (stV S t)) : utK S t k = 3 := by
  rw [show utK S t k = _ from if_pos h]
  exact if_neg (by rw [utA_e]; exact h2)
theorem utK_n {t k : Int32} (h : ¬ opK S t = 0) : utK S t k = opK S t := if_neg h
theorem utN_0 {t k : Int32} (h : utK S t k = 0) : utN S t k = unS (sS S 17 0) t (stV S t - k) := by rw [show utN S t k = _ from if_pos h, h, utA_e]
theorem utN_n {t k : Int32} (h : ¬ utK S t k = 0) : utN S t k = sS S 17 (utK S t k) := if_neg h
theorem udN_0 {t : Int32} (h : opK S t = 0) : udN S t = sA (unS (sS S 17 0) t (stV S t)) 1 (nv t) 2 := by rw [show udN S t = _ from if_pos h, h, utA_e]
theorem udN_n {t : Int32} (h : ¬ opK S t = 0) : udN S t = sS S 17 (opK S t) := if_neg h
theorem cmN_0 {t : Int32} (h : opK S t = 0) : cmN S t = cmM (sS S 17 0) (nv t) := by rw [show cmN S t = _ from if_pos h, h]; rfl
theorem cmN_n {t : Int32} (h : ¬ opK S t = 0) : cmN S t = sS S 17 (opK S t) := if_neg h
theorem vrN_0 {m r : Int32} (h : vrK S m r = 0) : vrN S m r = sS (sS S 17 0) 16 (vaV (sS S 17 0) m r (-1)).2 := by rw [show vrN S m r = _ from if_pos h, h]; rfl
theorem vrN_n {m r : Int32} (h : ¬ vrK S m r = 0) : vrN S m r = sS S 17 (vrK S m r) := if_neg h
theorem rdK_n {m r t k0 : Int32} (h : ¬ k0 = 0) : rdK S m r t k0 = k0 := if_neg h
theorem rdK_0 {m r t k0 : Int32} (h : k0 = 0) (h2 : (vaV (sS S 17 0) m r t).2 = 0) : rdK S m r t k0 = 0 := by
  subst h
  exact (if_pos rfl).trans (if_pos h2)
theorem rdK_3 {m r t k0 : Int32} (h : k0 = 0) (h2 : ¬ (vaV (sS S 17 0) m r t).2 = 0) : rdK S m r t k0 = 3 := by
  subst h
  exact (if_pos rfl).trans (if_neg h2)
theorem rdR_0 {m r t k0 : Int32} (h : k0 = 0) (h2 : (vaV (sS S 17 0) m r t).2 = 0) : rdR S m r t k0 = (vaV (sS S 17 0) m r t).1 := by
  subst h
  exact (if_pos rfl).trans (if_pos h2)
theorem rdN_n {m r t k0 : Int32} (h : ¬ k0 = 0) : rdN S m r t k0 = sS S 17 k0 := if_neg h
theorem rdN_0 {m r t k0 : Int32} (h : k0 = 0) (h2 : (vaV (sS S 17 0) m r t).2 = 0) : rdN S m r t k0 = cleanS (sS (sS (sS S 17 0) 16 (vaV (sS S 17 0) m r t).2) 17 0) (nv r / 4) := by
  subst h
  exact (if_pos rfl).trans (if_pos h2)
theorem rdN_3 {m r t k0 : Int32} (h : k0 = 0) (h2 : ¬ (vaV (sS S 17 0) m r t).2 = 0) : rdN S m r t k0 = sS (sS (sS S 17 0) 16 (vaV (sS S 17 0) m r t).2) 17 3 := by
  subst h
  exact (if_pos rfl).trans (if_neg h2)
theorem cleanS_17 {b : Nat} : (cleanS S b) 17 = S 17 := cleanS_n S b (by decide) (by decide)
theorem wrM_17 {x t r v : Int32} : (wrM (sS S 17 x) t r v) 17 0 = x := by
  show (cleanS (sS S 17 x) (nv r / 4)) 17 0 = x
  rw [cleanS_17]
  rfl
theorem unS_17 {x t z : Int32} : (unS (sS S 17 x) t z) 17 0 = x := by
  unfold unS
  rw [unL_n (by decide) (by decide)]
  rfl
theorem CW.s17 (h : CW D S ad w nT nC) {x : Int32} : CW D (sS S 17 x) ad w nT nC := h.cg (fun c hc => sU_n (by omega))
theorem CW.s16 (h : CW D S ad w nT nC) {x : Int32} : CW D (sS S 16 x) ad w nT nC := h.cg (fun c hc => sU_n (by omega))
theorem CW.rd {r9 : Int32} (h : CW D (cleanS (sS S 17 0) (nv r9 / 4)) ad w nT nC) {x : Int32} : CW D (cleanS (sS (sS (sS S 17 0) 16 x) 17 0) (nv r9 / 4)) ad w nT nC := by
  rw [cleanS_d (d := 17) (by decide) (by decide) (by decide) (by decide), cleanS_d (d := 16) (by decide) (by decide) (by decide) (by decide)]
  exact h.s16.s17
/-- what a call of the law's own method leaves -/
def OpP (D : va_G) (ad : Nat → Nat) (w : kWd) (K R : Int32) (N : St) (nC nM : Nat) : Int32 → (Nat → Nat) → kWd → Prop := fun v ad' w' => v = K ∧ (∃ nT' nC' nD' nM' nZ', CW D N ad' w' nT' nC' ∧ SN N nT' nC' nD' nM' nZ' ∧ nC' ≤ nC + 1 ∧ nM' ≤ nM + 1) ∧ (∃ f, w' 2100 = some (.inl (D.1 102, 1, .inr (.inl f))) ∧ (K = 0 → f 0 = R.toInt64)) ∧ (∀ k, 2000 ≤ k → k ≠ 2100 → w' k = w k) ∧ (∀ k, 2000 ≤ k → ad' k = ad k) ∧ ad' 0 = ad 0
theorem OpP.thrown {K R : Int32} {fo : Nat → Int64} (h : CW D N ad w nT nC) (hN : SN N nT nC nD nM nZ) (ho : w 2100 = some (.inl (D.1 102, 1, .inr (.inl fo)))) {v : Int32} (hv : K = v) (hK : ¬ K = 0) : OpP D ad w K R N nC nM v ad w :=
  ⟨hv.symm, ⟨nT, nC, nD, nM, nZ, h, hN, by omega, by omega⟩, ⟨fo, ho, fun q => absurd q hK⟩, fun _ _ _ => rfl, fun _ _ => rfl, rfl⟩
theorem OpP.ok {K R : Int32} {fo : Nat → Int64} {x : Int64} {w1 w2 : kWd} {ad1 : Nat → Nat} {nT' nC' nD' nM' nZ' : Nat} (h : CW D N ad1 w1 nT' nC') (hN : SN N nT' nC' nD' nM' nZ') (h1 : nC' ≤ nC + 1) (h2 : nM' ≤ nM + 1) (hF : FrC ad w ad1 w1) (h0 : ad1 0 = ad 0) (e : w2 = va_up w1 2100 (some (.inl (D.1 102, 1, .inr (.inl (vp_updL fo (0 : Int32).toNatClampNeg x)))))) (hK : K = 0) (hx : x = R.toInt64) : OpP D ad w K R N nC nM 0 ad1 w2 :=
  ⟨hK.symm, ⟨nT', nC', nD', nM', nZ', h.fr hN (fun k hk => up_n e (by omega)) (fun _ _ => rfl), hN, h1, h2⟩, ⟨_, up_s e, fun _ => by rw [← hx]; exact pk_uLs⟩, fun k h1 h2 => (up_n e h2).trans (hF k h1).1, fun k hk => (hF k hk).2, h0⟩
end BR
