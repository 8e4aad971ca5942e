/-! the kinds, on -/
theorem isB_n {a : Int32} (h : isB a) : ∃ k, k < 256 ∧ a = nI k := ⟨a.toBitVec.toNat % 2 ^ 8, Nat.mod_lt _ (by decide), (Eq.symm h).trans (pk_and a 8 (by decide))⟩
theorem sp_q : ∀ m, m < 256 → nI m >>> ((6 : Int32) &&& 31) = nI (m / 64) := by decide +kernel
theorem sp_256 : ∀ k, k < 256 → ∀ c, c < 4 → ((nI k <<< ((2 : Int32) &&& 31)) ||| nI c = 256 ↔ (nI k = 64 ∧ nI c = 0)) := by decide +kernel
theorem sp_511 : ∀ k, k < 256 → ∀ c, c < 4 → ((nI k <<< ((2 : Int32) &&& 31)) ||| nI c = 511 ↔ (nI k = 127 ∧ nI c = 3)) := by decide +kernel
theorem sp_top {a b c d : Int32} (ha : isB a) (hb : isB b) (hc : isB c) (hd : isB d) :
    (kU (((a <<< ((24 : Int32) &&& 31) ||| b <<< ((16 : Int32) &&& 31)) ||| c <<< ((8 : Int32) &&& 31)) ||| d) 22 = 256 ↔ (a = 64 ∧ b >>> ((6 : Int32) &&& 31) = 0)) ∧
    (kU (((a <<< ((24 : Int32) &&& 31) ||| b <<< ((16 : Int32) &&& 31)) ||| c <<< ((8 : Int32) &&& 31)) ||| d) 22 = 511 ↔ (a = 127 ∧ b >>> ((6 : Int32) &&& 31) = 3)) := by
  rw [bP1 a b c d ha hb hc hd]
  obtain ⟨k, hk, rfl⟩ := isB_n ha
  obtain ⟨m, hm, rfl⟩ := isB_n hb
  rw [sp_q m hm]
  exact ⟨sp_256 k hk (m / 64) (by omega), sp_511 k hk (m / 64) (by omega)⟩
def spV (t : Int32) : Int32 := if (kU t 22) &&& 1 = 1 then ((1073741824 ||| 1069547520) ||| (t &&& 4194303)) else ((1073741824 ||| 0) ||| (t &&& 4194303))
set_option maxHeartbeats 2000000 in
theorem k_sparc {en ds st : Int32} {gv0 N i n : Nat} {s : cRS} {M : MS} (hi : i < 4) (hN : N ≤ 64) (hR : RRel 6 st gv0 N i n s M) (h1 : 4 ≤ n) (h2 : n ≤ 16) :
    KRes 6 en ds st gv0 N i n s M (rSparc en st i n (mNx M) (mH M) (mM M) (mG M) (mU M) (mN M)) := by
  have hR' := hR
  obtain ⟨r1, r2, r3, r4, r5, r6, r7, r8, r9, r10, r11, r12, r13, r14⟩ := hR'
  obtain ⟨h, pl, rp, mk, la, g, pf⟩ := s
  dsimp only at r2 r3 r4 r5 r6 r7 r8 r9 r12
  have e0 : mH M (16 * i + 0) = g h := r2 0 (by omega)
  have e1 := r2 1 (by omega)
  have ew : rHi i 0 (mH M) = cHi g h := rHi_rel (k := 0) r2 (by omega)
  obtain ⟨c1, c2⟩ := sp_top (r3 h (by omega)) (r3 (h + 1) (by omega)) (r3 (h + 2) (by omega)) (r3 (h + 3) (by omega))
  have c1 : kU (cHi g h) 22 = 256 ↔ (mH M (16 * i + 0) = 64 ∧ mH M (16 * i + 1) >>> ((6 : Int32) &&& 31) = 0) := by rw [e0, e1]; exact c1
  have c2 : kU (cHi g h) 22 = 511 ↔ (mH M (16 * i + 0) = 127 ∧ mH M (16 * i + 1) >>> ((6 : Int32) &&& 31) = 3) := by rw [e0, e1]; exact c2
  have same : cSparc en pl rp h g = (4, rp, g) → rSparc en st i n (mNx M) (mH M) (mM M) (mG M) (mU M) (mN M) = (nI (mNx M + 4), rSh (mH M) (16 * i) 4 (n - 4), upd (mM M) i (nI (n - 4)), upd (mG M) i (mG M i + nI 4), mU M, rCp (mN M) (mNx M) (fun k => mH M (16 * i + k)) 4) → KRes 6 en ds st gv0 N i n (h, pl, rp, mk, la, g, pf) M (rSparc en st i n (mNx M) (mH M) (mM M) (mG M) (mU M) (mN M)) := by
    intro hA hB
    refine KRes.same (mg := 4) (by decide) (by decide) hi hN hR h1 (by decide) h2 ?_ hB
    show (h + (cSparc en pl rp h g).1.toNatClampNeg, pl + (cSparc en pl rp h g).1, (cSparc en pl rp h g).2.1, mk, la, (cSparc en pl rp h g).2.2, pf) = _
    rw [hA]; rfl
  have chg : ∀ V : Int32, cSparc en pl rp h g = (4, rp + 1, cSetHi g h V) → rSparc en st i n (mNx M) (mH M) (mM M) (mG M) (mU M) (mN M) = (nI (mNx M + 4), rSh (rSetHi i 0 V (mH M)) (16 * i) 4 (n - 4), upd (mM M) i (nI (n - 4)), upd (mG M) i (mG M i + nI 4), upd (mU M) i (mU M i + 1), rCp (mN M) (mNx M) (fun k => rSetHi i 0 V (mH M) (16 * i + k)) 4) → KRes 6 en ds st gv0 N i n (h, pl, rp, mk, la, g, pf) M (rSparc en st i n (mNx M) (mH M) (mM M) (mG M) (mU M) (mN M)) := by
    intro V hA hB
    refine KRes.chg (mg := 4) (hf1 := rSetHi i 0 V (mH M)) (g1 := cSetHi g h V) (by decide) (by decide) hi hN hR h1 (by decide) h2 ?_ hB (rSetHi_rel (k := 0) V r2 (by omega)) (cSetHi_B r3) (fun j hj => cSetHi_n _ _ (Or.inl hj)) (rSetHi_out V (by omega))
    show (h + (cSparc en pl rp h g).1.toNatClampNeg, pl + (cSparc en pl rp h g).1, (cSparc en pl rp h g).2.1, mk, la, (cSparc en pl rp h g).2.2, pf) = _
    rw [hA]; rfl
  obtain ⟨t, et⟩ : ∃ z, z = kU (cMd en (4 * cHi g h) pl) 2 := ⟨_, rfl⟩
  have et' : kU (rMd en (rHi i 0 (mH M) * 4) (st + mG M i)) 2 = t := by rw [ew, Int32.mul_comm, ← r6, et]; rfl
  by_cases hc : kU (cHi g h) 22 = 256
  · obtain ⟨d1, d2⟩ := c1.mp hc
    by_cases hs : kU t 22 &&& 1 = 1
    · refine chg ((1073741824 ||| 1069547520) ||| (t &&& 4194303)) ?_ ?_
      · rw [et]; exact (if_pos hc).trans (if_pos (by rw [← et]; exact hs))
      · rw [← et', ← bP3]; exact (if_pos d1).trans ((if_pos d2).trans (if_pos (by rw [et', bP2]; exact hs)))
    · refine chg ((1073741824 ||| 0) ||| (t &&& 4194303)) ?_ ?_
      · rw [et]; exact (if_pos hc).trans (if_neg (by rw [← et]; exact hs))
      · rw [← et']; exact (if_pos d1).trans ((if_pos d2).trans (if_neg (by rw [et', bP2]; exact hs)))
  · by_cases hd : kU (cHi g h) 22 = 511
    · obtain ⟨d1, d2⟩ := c2.mp hd
      have d3 : ¬ mH M (16 * i + 0) = 64 := by rw [d1]; decide
      by_cases hs : kU t 22 &&& 1 = 1
      · refine chg ((1073741824 ||| 1069547520) ||| (t &&& 4194303)) ?_ ?_
        · rw [et]; exact (if_neg hc).trans ((if_pos hd).trans (if_pos (by rw [← et]; exact hs)))
        · rw [← et', ← bP3]; exact (if_neg d3).trans ((if_pos d1).trans ((if_pos d2).trans (if_pos (by rw [et', bP2]; exact hs))))
      · refine chg ((1073741824 ||| 0) ||| (t &&& 4194303)) ?_ ?_
        · rw [et]; exact (if_neg hc).trans ((if_pos hd).trans (if_neg (by rw [← et]; exact hs)))
        · rw [← et']; exact (if_neg d3).trans ((if_pos d1).trans ((if_pos d2).trans (if_neg (by rw [et', bP2]; exact hs))))
    · refine same ((if_neg hc).trans (if_neg hd)) ?_
      by_cases d1 : mH M (16 * i + 0) = 64
      · have d2 : ¬ mH M (16 * i + 1) >>> ((6 : Int32) &&& 31) = 0 := fun q => hc (c1.mpr ⟨d1, q⟩)
        have d3 : ¬ mH M (16 * i + 0) = 127 := by rw [d1]; decide
        exact (if_pos d1).trans ((if_neg d2).trans (if_neg d3))
      · by_cases d3 : mH M (16 * i + 0) = 127
        · exact (if_neg d1).trans ((if_pos d3).trans (if_neg (fun q => hd (c2.mpr ⟨d3, q⟩))))
        · exact (if_neg d1).trans (if_neg d3)
def nJ (w : Int32) : Int32 := ((((kU w 31) <<< ((20 : Int32) &&& 31)) ||| (w &&& 1044480)) ||| (((kU w 20) &&& 1) <<< ((11 : Int32) &&& 31))) ||| (((kU w 21) &&& 1023) <<< ((1 : Int32) &&& 31))
def nJm (w : Int32) : Int32 := ((((kU w 31) <<< ((20 : Int32) &&& 31)) ||| (((w >>> ((12 : Int32) &&& 31)) &&& 255) <<< ((12 : Int32) &&& 31))) ||| (((w >>> ((20 : Int32) &&& 31)) &&& 1) <<< ((11 : Int32) &&& 31))) ||| (((w >>> ((21 : Int32) &&& 31)) &&& 1023) <<< ((1 : Int32) &&& 31))
theorem nJ_eq (w : Int32) : nJm w = nJ w := by unfold nJm nJ; rw [bX2, bX3, bX4]
def vJ (w t : Int32) : Int32 := (w &&& 4095) ||| ((((((kU t 20) &&& 1) <<< ((31 : Int32) &&& 31)) ||| (((kU t 1) &&& 1023) <<< ((21 : Int32) &&& 31))) ||| (((kU t 11) &&& 1) <<< ((20 : Int32) &&& 31))) ||| (t &&& 1044480))
def vJm (w t : Int32) : Int32 := ((((w &&& 4095) ||| (((t >>> ((20 : Int32) &&& 31)) &&& 1) <<< ((31 : Int32) &&& 31))) ||| (((t >>> ((1 : Int32) &&& 31)) &&& 1023) <<< ((21 : Int32) &&& 31))) ||| (((t >>> ((11 : Int32) &&& 31)) &&& 1) <<< ((20 : Int32) &&& 31))) ||| (((t >>> ((12 : Int32) &&& 31)) &&& 255) <<< ((12 : Int32) &&& 31))
theorem vJ_eq (w t : Int32) : vJm w t = vJ w t := by unfold vJm vJ; rw [bX3, bX5, bX6, bX2, ← Int32.or_assoc, ← Int32.or_assoc, ← Int32.or_assoc]
theorem cSetLo_comm (g : Nat → Int32) (h : Nat) (a b : Int32) (q : Nat) : cSetLo (cSetLo g h a) (h + 4) b q = cSetLo (cSetLo g (h + 4) b) h a q := by
  rcases (show q < h ∨ q = h ∨ q = h + 1 ∨ q = h + 2 ∨ q = h + 3 ∨ q = h + 4 ∨ q = h + 4 + 1 ∨ q = h + 4 + 2 ∨ q = h + 4 + 3 ∨ h + 8 ≤ q by omega) with w | rfl | rfl | rfl | rfl | rfl | rfl | rfl | rfl | w
  · rw [cSetLo_n _ _ (by omega), cSetLo_n _ _ (by omega), cSetLo_n _ _ (by omega), cSetLo_n _ _ (by omega)]
  · rw [cSetLo_n _ _ (by omega), cSetLo_0, cSetLo_0]
  · rw [cSetLo_n _ _ (by omega), cSetLo_1, cSetLo_1]
  · rw [cSetLo_n _ _ (by omega), cSetLo_2, cSetLo_2]
  · rw [cSetLo_n _ _ (by omega), cSetLo_3, cSetLo_3]
  · rw [cSetLo_0, cSetLo_n _ _ (by omega), cSetLo_0]
  · rw [cSetLo_1, cSetLo_n _ _ (by omega), cSetLo_1]
  · rw [cSetLo_2, cSetLo_n _ _ (by omega), cSetLo_2]
  · rw [cSetLo_3, cSetLo_n _ _ (by omega), cSetLo_3]
  · rw [cSetLo_n _ _ (by omega), cSetLo_n _ _ (by omega), cSetLo_n _ _ (by omega), cSetLo_n _ _ (by omega)]
set_option maxHeartbeats 4000000 in
theorem k_risc {en ds st : Int32} {gv0 N i n : Nat} {s : cRS} {M : MS} (hi : i < 4) (hN : N ≤ 64) (hR : RRel 7 st gv0 N i n s M) (h1 : 8 ≤ n) (h2 : n ≤ 16) :
    KRes 7 en ds st gv0 N i n s M (rRisc en st i n (mNx M) (mH M) (mM M) (mG M) (mU M) (mN M)) := by
  have hR' := hR
  obtain ⟨r1, r2, r3, r4, r5, r6, r7, r8, r9, r10, r11, r12, r13, r14⟩ := hR'
  obtain ⟨h, pl, rp, mk, la, g, pf⟩ := s
  dsimp only at r2 r3 r4 r5 r6 r7 r8 r9 r12
  have ew : rLo i 0 (mH M) = cLo g h := rLo_rel (k := 0) r2 (by omega)
  have ev : rLo i 4 (mH M) = cLo g (h + 4) := rLo_rel (k := 4) r2 (by omega)
  have er : (rLo i 0 (mH M) >>> ((7 : Int32) &&& 31)) &&& 31 = kU (cLo g h) 7 &&& 31 := by rw [ew, bX1]
  have er2 : (rLo i 4 (mH M) >>> ((15 : Int32) &&& 31)) &&& 31 = kU (cLo g (h + 4)) 15 &&& 31 := by rw [ev, bX7]
  have same : ∀ mg : Nat, (mg = 2 ∨ mg = 8) → cRisc en pl rp h g = (nI mg, rp, g) → rRisc en st i n (mNx M) (mH M) (mM M) (mG M) (mU M) (mN M) = (nI (mNx M + mg), rSh (mH M) (16 * i) mg (n - mg), upd (mM M) i (nI (n - mg)), upd (mG M) i (mG M i + nI mg), mU M, rCp (mN M) (mNx M) (fun k => mH M (16 * i + k)) mg) → KRes 7 en ds st gv0 N i n (h, pl, rp, mk, la, g, pf) M (rRisc en st i n (mNx M) (mH M) (mM M) (mG M) (mU M) (mN M)) := by
    intro mg hmg hA hB
    refine KRes.same (mg := mg) (by decide) (by decide) hi hN hR (by omega) (by omega) h2 ?_ hB
    show (h + (cRisc en pl rp h g).1.toNatClampNeg, pl + (cRisc en pl rp h g).1, (cRisc en pl rp h g).2.1, mk, la, (cRisc en pl rp h g).2.2, pf) = _
    rw [hA]
    rcases hmg with rfl | rfl <;> rfl
  have jmp : cRisc en pl rp h g = (4, rp + 1, cSetLo g h (vJ (cLo g h) (rMd en (nJ (cLo g h)) pl))) → rRisc en st i n (mNx M) (mH M) (mM M) (mG M) (mU M) (mN M) = (nI (mNx M + 4), rSh (rSetLo i 0 (vJm (rLo i 0 (mH M)) (rMd en (nJm (rLo i 0 (mH M))) (st + mG M i))) (mH M)) (16 * i) 4 (n - 4), upd (mM M) i (nI (n - 4)), upd (mG M) i (mG M i + nI 4), upd (mU M) i (mU M i + 1), rCp (mN M) (mNx M) (fun k => rSetLo i 0 (vJm (rLo i 0 (mH M)) (rMd en (nJm (rLo i 0 (mH M))) (st + mG M i))) (mH M) (16 * i + k)) 4) → KRes 7 en ds st gv0 N i n (h, pl, rp, mk, la, g, pf) M (rRisc en st i n (mNx M) (mH M) (mM M) (mG M) (mU M) (mN M)) := by
    intro hA hB
    obtain ⟨V, eV⟩ : ∃ z, z = vJ (cLo g h) (rMd en (nJ (cLo g h)) pl) := ⟨_, rfl⟩
    rw [ew, vJ_eq, nJ_eq, ← r6, ← eV] at hB
    rw [← eV] at hA
    refine KRes.chg (mg := 4) (hf1 := rSetLo i 0 V (mH M)) (g1 := cSetLo g h V) (by decide) (by decide) hi hN hR (by omega) (by decide) h2 ?_ hB (rSetLo_rel (k := 0) V r2 (by omega)) (cSetLo_B r3) (fun j hj => cSetLo_n _ _ (Or.inl hj)) (rSetLo_out V (by omega))
    show (h + (cRisc en pl rp h g).1.toNatClampNeg, pl + (cRisc en pl rp h g).1, (cRisc en pl rp h g).2.1, mk, la, (cRisc en pl rp h g).2.2, pf) = _
    rw [hA]; rfl
  have pair : ∀ a b : Int32, cRisc en pl rp h g = (8, rp + 1, cSetLo (cSetLo g h a) (h + 4) b) → rRisc en st i n (mNx M) (mH M) (mM M) (mG M) (mU M) (mN M) = (nI (mNx M + 8), rSh (rSetLo i 0 a (rSetLo i 4 b (mH M))) (16 * i) 8 (n - 8), upd (mM M) i (nI (n - 8)), upd (mG M) i (mG M i + nI 8), upd (mU M) i (mU M i + 1), rCp (mN M) (mNx M) (fun k => rSetLo i 0 a (rSetLo i 4 b (mH M)) (16 * i + k)) 8) → KRes 7 en ds st gv0 N i n (h, pl, rp, mk, la, g, pf) M (rRisc en st i n (mNx M) (mH M) (mM M) (mG M) (mU M) (mN M)) := by
    intro a b hA hB
    refine KRes.chg (mg := 8) (hf1 := rSetLo i 0 a (rSetLo i 4 b (mH M))) (g1 := cSetLo (cSetLo g h a) (h + 4) b) (by decide) (by decide) hi hN hR (by omega) (by decide) h2 ?_ hB (fun j hj => ?_) (cSetLo_B (cSetLo_B r3)) (fun j hj => ?_) (fun q hq => (rSetLo_out a (by omega) q hq).trans (rSetLo_out b (by omega) q hq))
    · show (h + (cRisc en pl rp h g).1.toNatClampNeg, pl + (cRisc en pl rp h g).1, (cRisc en pl rp h g).2.1, mk, la, (cRisc en pl rp h g).2.2, pf) = _
      rw [hA]; rfl
    · show _ = cSetLo (cSetLo g h a) (h + 4) b (h + j)
      rw [cSetLo_comm]
      exact rSetLo_rel (k := 0) a (rSetLo_rel (k := 4) b r2 (by omega)) (by omega) j hj
    · have hj : j < h := hj
      show cSetLo (cSetLo g h a) (h + 4) b j = g j
      rw [cSetLo_n _ _ (by omega), cSetLo_n _ _ (by omega)]
  have auipc : ¬ (cLo g h &&& 127 = 111 ∧ (kU (cLo g h) 7 &&& 31 = 1 ∨ kU (cLo g h) 7 &&& 31 = 5)) → KRes 7 en ds st gv0 N i n (h, pl, rp, mk, la, g, pf) M (rRisc en st i n (mNx M) (mH M) (mM M) (mG M) (mU M) (mN M)) := by
    intro hno
    have cU : cRisc en pl rp h g = (if (cLo g h &&& 127) = 23 then (if kU (cLo g h) 7 &&& 31 = 0 then (2, rp, g) else (8, (cRp en pl rp (cLo g h) (cLo g (h + 4)) (kU (cLo g h) 7 &&& 31) h g).1, (cRp en pl rp (cLo g h) (cLo g (h + 4)) (kU (cLo g h) 7 &&& 31) h g).2)) else (2, rp, g)) := by
      by_cases q1 : cLo g h &&& 127 = 111
      · have q2 : ¬ kU (cLo g h) 7 &&& 31 = 1 := fun q => hno ⟨q1, Or.inl q⟩
        have q3 : ¬ kU (cLo g h) 7 &&& 31 = 5 := fun q => hno ⟨q1, Or.inr q⟩
        exact (if_pos q1).trans ((if_neg q2).trans (if_neg q3))
      · exact if_neg q1
    by_cases ha : cLo g h &&& 127 = 23
    · have ha' : rLo i 0 (mH M) &&& 127 = 23 := by rw [ew]; exact ha
      have ha2 : ¬ rLo i 0 (mH M) &&& 127 = 111 := by rw [ha']; decide
      by_cases hr : kU (cLo g h) 7 &&& 31 = 0
      · exact same 2 (Or.inl rfl) (cU.trans ((if_pos ha).trans (if_pos hr))) ((if_neg ha2).trans ((if_pos ha').trans (if_pos (er.trans hr))))
      · have hr' : ¬ (rLo i 0 (mH M) >>> ((7 : Int32) &&& 31)) &&& 31 = 0 := fun q => hr (er.symm.trans q)
        have cV := cU.trans ((if_pos ha).trans (if_neg hr))
        by_cases hv : kU (cLo g (h + 4)) 15 &&& 31 = kU (cLo g h) 7 &&& 31
        · have hv' : (rLo i 4 (mH M) >>> ((15 : Int32) &&& 31)) &&& 31 = (rLo i 0 (mH M) >>> ((7 : Int32) &&& 31)) &&& 31 := (er2.trans hv).trans er.symm
          by_cases h67 : cLo g (h + 4) &&& 127 = 103
          · refine pair (((cLo g h) &&& 4095) ||| (((rMd en (((cLo g h) &&& (-4096)) + ((cLo g (h + 4)) >>> ((20 : Int32) &&& 31))) pl) + 2048) &&& (-4096))) (((cLo g (h + 4)) &&& 1048575) ||| ((rMd en (((cLo g h) &&& (-4096)) + ((cLo g (h + 4)) >>> ((20 : Int32) &&& 31))) pl) <<< ((20 : Int32) &&& 31))) ?_ ?_
            · rw [cV, show cRp en pl rp (cLo g h) (cLo g (h + 4)) (kU (cLo g h) 7 &&& 31) h g = _ from (if_pos hv).trans (if_pos h67)]; rfl
            · rw [r6, ← ew, ← ev]
              exact (if_neg ha2).trans ((if_pos ha').trans ((if_neg hr').trans ((if_pos hv').trans (if_pos (by rw [ev]; exact h67)))))
          · by_cases h3 : cLo g (h + 4) &&& 127 = 3
            · refine pair (((cLo g h) &&& 4095) ||| (((rMd en (((cLo g h) &&& (-4096)) + ((cLo g (h + 4)) >>> ((20 : Int32) &&& 31))) pl) + 2048) &&& (-4096))) (((cLo g (h + 4)) &&& 1048575) ||| ((rMd en (((cLo g h) &&& (-4096)) + ((cLo g (h + 4)) >>> ((20 : Int32) &&& 31))) pl) <<< ((20 : Int32) &&& 31))) ?_ ?_
              · rw [cV, show cRp en pl rp (cLo g h) (cLo g (h + 4)) (kU (cLo g h) 7 &&& 31) h g = _ from (if_pos hv).trans ((if_neg h67).trans (if_pos h3))]; rfl
              · rw [r6, ← ew, ← ev]
                exact (if_neg ha2).trans ((if_pos ha').trans ((if_neg hr').trans ((if_pos hv').trans ((if_neg (by rw [ev]; exact h67)).trans (if_pos (by rw [ev]; exact h3))))))
            · refine same 8 (Or.inr rfl) ?_ ((if_neg ha2).trans ((if_pos ha').trans ((if_neg hr').trans ((if_pos hv').trans ((if_neg (by rw [ev]; exact h67)).trans (if_neg (by rw [ev]; exact h3)))))))
              rw [cV, show cRp en pl rp (cLo g h) (cLo g (h + 4)) (kU (cLo g h) 7 &&& 31) h g = _ from (if_pos hv).trans ((if_neg h67).trans (if_neg h3))]; rfl
        · have hv' : ¬ (rLo i 4 (mH M) >>> ((15 : Int32) &&& 31)) &&& 31 = (rLo i 0 (mH M) >>> ((7 : Int32) &&& 31)) &&& 31 := fun q => hv ((er2.symm.trans q).trans er)
          refine same 8 (Or.inr rfl) ?_ ((if_neg ha2).trans ((if_pos ha').trans ((if_neg hr').trans (if_neg hv'))))
          rw [cV, show cRp en pl rp (cLo g h) (cLo g (h + 4)) (kU (cLo g h) 7 &&& 31) h g = _ from if_neg hv]; rfl
    · have ha' : ¬ rLo i 0 (mH M) &&& 127 = 23 := by rw [ew]; exact ha
      refine same 2 (Or.inl rfl) (cU.trans (if_neg ha)) ?_
      by_cases q1 : rLo i 0 (mH M) &&& 127 = 111
      · have q2 : ¬ (rLo i 0 (mH M) >>> ((7 : Int32) &&& 31)) &&& 31 = 1 := fun q => hno ⟨by rw [← ew]; exact q1, Or.inl (er.symm.trans q)⟩
        have q3 : ¬ (rLo i 0 (mH M) >>> ((7 : Int32) &&& 31)) &&& 31 = 5 := fun q => hno ⟨by rw [← ew]; exact q1, Or.inr (er.symm.trans q)⟩
        exact (if_pos q1).trans ((if_neg q2).trans ((if_neg q3).trans (if_neg ha')))
      · exact (if_neg q1).trans (if_neg ha')
  by_cases hc : cLo g h &&& 127 = 111
  · have hc' : rLo i 0 (mH M) &&& 127 = 111 := by rw [ew]; exact hc
    by_cases hd : kU (cLo g h) 7 &&& 31 = 1
    · exact jmp ((if_pos hc).trans (if_pos hd)) ((if_pos hc').trans (if_pos (er.trans hd)))
    · by_cases he : kU (cLo g h) 7 &&& 31 = 5
      · exact jmp ((if_pos hc).trans ((if_neg hd).trans (if_pos he))) ((if_pos hc').trans ((if_neg (fun q => hd (er.symm.trans q))).trans (if_pos (er.trans he))))
      · exact auipc (fun q => q.2.elim hd he)
  · exact auipc (fun q => hc q.1)
