/-! jump: a step of the class, a work of the model -/
theorem ag_fact {mk D : Int32} {top h i n : Nat} {g xf : Nat → Int32} (hX : XI mk D top g h n) (htop : top ≤ 4000) (hx : xf i = mk) :
    ∃ k, k < 256 ∧ rAgA xf i D i = nI k ∧ cAge mk D = nI k ∧ k.testBit 0 = false ∧ k.testBit 4 = false ∧ ∀ c, c < 4 → 1 ≤ c → k.testBit c = true → k.testBit (c + 4) = false → cSg (g (h + (4 - c))) = 0 := by
  obtain ⟨dd, mkn, eD, d1, d2, ek, hk, hB⟩ := hX
  subst eD; subst ek
  have n0 : ¬ nI dd < 0 := nI_pos (by omega)
  by_cases h5 : dd ≤ 5
  · have l5 : nI dd ≤ 5 := (nI_leI (b := 5) (by omega) (by omega)).mpr h5
    obtain ⟨f0, f4, fc⟩ := aN_fact (dd := dd) (k := mkn) (by omega) d1 hk
    refine ⟨aNn mkn dd, aNn_lt hk dd, ?_, ?_, f0, f4, fun c hc hc1 b1 b2 => ?_⟩
    · rw [show rAgA xf i (nI dd) = _ from (if_neg n0).trans (if_pos l5), nI_clamp (by omega)]
      exact rAgN_n hk hx dd
    · rw [show cAge (nI mkn) (nI dd) = _ from (if_neg n0).trans (if_pos l5), nI_clamp (by omega)]
      exact cAgeN_n hk dd
    · obtain ⟨q1, q2, q3⟩ := fc c hc hc1 b1
      have q := (hB (c - dd) (by omega) q2 (by rw [← q3]; exact b2) (by omega)).2
      rw [show 4 - dd - (c - dd) = 4 - c by omega] at q
      exact q
  · have l5 : ¬ nI dd ≤ 5 := fun q => h5 ((nI_leI (b := 5) (by omega) (by omega)).mp q)
    refine ⟨0, by decide, ?_, (if_neg n0).trans (if_neg l5), Nat.zero_testBit 0, Nat.zero_testBit 4, fun c _ _ b1 _ => ?_⟩
    · rw [show rAgA xf i (nI dd) = _ from (if_neg n0).trans (if_neg l5)]; exact pk_us
    · rw [Nat.zero_testBit] at b1; cases b1
theorem pl_self (x : Int32) (k : Nat) : x + nI k - x = nI k := by rw [Int32.add_comm, Int32.add_sub_cancel]
theorem pl_on (x y : Int32) (k : Nat) : x + nI k - y = x - y + nI k := by
  rw [Int32.sub_eq_add_neg, Int32.sub_eq_add_neg, Int32.add_assoc, Int32.add_comm (nI k), Int32.add_assoc]
theorem rJ3_1 (en st : Int32) (i n nx : Nat) (hf mf gf uf nf xg lg : Nat → Int32) : (rJ3 en st i n nx hf mf gf uf nf xg lg).1 = nI (nx + 5) := by
  obtain ⟨v, _, e⟩ := rJ3_eq en st i n nx hf mf gf uf nf xg lg
  rw [e]
set_option maxHeartbeats 4000000 in
theorem k_jump {en ds st : Int32} {gv0 N i n : Nat} {s : cRS} {M : MS} (hi : i < 4) (hN : N ≤ 64) (hR : RRel 2 st gv0 N i n s M) (h1 : 5 ≤ n) (h2 : n ≤ 16) (htop : gv0 + s.1 ≤ 4000) :
    (rJump en st i n (mNx M) (mH M) (mM M) (mG M) (mU M) (mN M) (mX M) (mL M) = rJ3 en st i n (mNx M) (mH M) (mM M) (mG M) (mU M) (mN M) (rAgA (mX M) i ((st + mG M i) - (mL M i))) (upd (mL M) i (st + mG M i)) → rHE en st i (mH M) (mG M) (rAgA (mX M) i ((st + mG M i) - (mL M i)))) ∧
    ∃ u : MS, KOk 2 en ds st gv0 N i n s M u ∧ rJump en st i n (mNx M) (mH M) (mM M) (mG M) (mU M) (mN M) (mX M) (mL M) = (nI (mNx u), mH u, mM u, mG u, mU u, mN u, mX u, mL u) ∧ mP u = mP M := by
  have hR' := hR
  obtain ⟨r1, r2, r3, r4, r5, r6, r7, r8, r9, r10, r11, r12, r13, r14⟩ := hR'
  obtain ⟨h, pl, rp, mk, la, g, pf⟩ := s
  dsimp only at r2 r3 r4 r5 r6 r7 r8 r9 r12 r13 htop
  have e0 : mH M (16 * i + 0) = g h := r2 0 (by omega)
  have e4 : mH M (16 * i + 4) = g (h + 4) := r2 4 (by omega)
  have hX := r13 rfl
  obtain ⟨k, hk, ax, ac, k0, k4, kc⟩ := ag_fact hX htop r8
  have eD : (st + mG M i) - mL M i = pl - la := by rw [← r6, r9]
  have hbad : ∀ {r}, rJump en st i n (mNx M) (mH M) (mM M) (mG M) (mU M) (mN M) (mX M) (mL M) = r → r.1 = nI (mNx M + 1) → rJump en st i n (mNx M) (mH M) (mM M) (mG M) (mU M) (mN M) (mX M) (mL M) = rJ3 en st i n (mNx M) (mH M) (mM M) (mG M) (mU M) (mN M) (rAgA (mX M) i ((st + mG M i) - (mL M i))) (upd (mL M) i (st + mG M i)) → False := by
    intro r q1 q2 q3
    have q := rJ3_1 en st i n (mNx M) (mH M) (mM M) (mG M) (mU M) (mN M) (rAgA (mX M) i ((st + mG M i) - (mL M i))) (upd (mL M) i (st + mG M i))
    rw [← q3, q1, q2, r11] at q
    have q' : nI (h + 1) = nI (h + 5) := q
    have := (nI_eq (by omega) (by omega)).mp q'
    omega
  rw [eD] at hbad ⊢
  obtain ⟨xg, exg⟩ : ∃ z, z = rAgA (mX M) i (pl - la) := ⟨_, rfl⟩
  rw [← exg] at ax hbad ⊢
  have xo : ∀ q, q ≠ i → xg q = mX M q := fun q hq => by rw [exg]; exact rAgA_o hq
  by_cases hc : g h = 232 ∨ g h = 233
  · have eJ : rJump en st i n (mNx M) (mH M) (mM M) (mG M) (mU M) (mN M) (mX M) (mL M) = rJ2 en st i n (mNx M) (mH M) (mM M) (mG M) (mU M) (mN M) xg (upd (mL M) i (st + mG M i)) := by
      rw [exg, ← eD]
      by_cases q : g h = 232
      · exact if_pos (e0.trans q)
      · exact (if_neg (fun w => q (e0.symm.trans w))).trans (if_pos (e0.trans (hc.resolve_left q)))
    have eC : cX86 en pl rp mk la h g = (if (cSg (g (h + 4))) = 0 then (1, rp, (cAge mk (pl - la)) ||| 1, pl, g) else (if cAl (cAge mk (pl - la)) = 0 then (1, rp, (cAge mk (pl - la)) ||| 17, pl, g) else (5, rp + 1, 0, pl, cSetLo g (h + 1) (((cXt en (cAge mk (pl - la)) (cLo g (h + 1)) (pl + 5)) <<< ((7 : Int32) &&& 31)) >>> ((7 : Int32) &&& 31))))) := by
      by_cases q : g h = 232
      · exact if_pos q
      · exact (if_neg q).trans (if_pos (hc.resolve_left q))
    rw [ac] at eC
    -- a byte alone is given, the mask grows
    have one : ∀ km : Nat, km < 256 → (∀ b, b < 3 → km.testBit b = true → km.testBit (b + 4) = false → cSg (g (h + (4 - b))) = 0) → cX86 en pl rp mk la h g = (1, rp, nI km, pl, g) → rJump en st i n (mNx M) (mH M) (mM M) (mG M) (mU M) (mN M) (mX M) (mL M) = (nI (mNx M + 1), rSh (mH M) (16 * i) 1 (n - 1), upd (mM M) i (nI (n - 1)), upd (mG M) i (mG M i + nI 1), mU M, rCp (mN M) (mNx M) (fun k => mH M (16 * i + k)) 1, upd xg i (nI km), upd (mL M) i (st + mG M i)) → (rJump en st i n (mNx M) (mH M) (mM M) (mG M) (mU M) (mN M) (mX M) (mL M) = rJ3 en st i n (mNx M) (mH M) (mM M) (mG M) (mU M) (mN M) xg (upd (mL M) i (st + mG M i)) → rHE en st i (mH M) (mG M) xg) ∧ ∃ u : MS, KOk 2 en ds st gv0 N i n (h, pl, rp, mk, la, g, pf) M u ∧ rJump en st i n (mNx M) (mH M) (mM M) (mG M) (mU M) (mN M) (mX M) (mL M) = (nI (mNx u), mH u, mM u, mG u, mU u, mN u, mX u, mL u) ∧ mP u = mP M := by
      intro km hkm hbits hA hB
      refine ⟨fun q => absurd q (fun q => hbad hB rfl q), _, KOk.of (mg := 1) (t := (rp, nI km, pl, g, pf)) (by omega) (by decide) ?_ (give_rel (mg := 1) (rp1 := rp) (mk1 := nI km) (la1 := pl) (q1 := pf) (g1 := g) (hf1 := mH M) (uf1 := mU M) (xf1 := upd xg i (nI km)) (lf1 := upd (mL M) i (st + mG M i)) (pf1 := mP M) hi hN hR (by omega) h2 r2 r3 (fun _ _ => rfl) r7 pk_us (by rw [pk_us, r6]) (fun q => absurd q (by decide)) (fun _ => ?_) (fun q => absurd rfl q)) (give_fr hi h2 (fun _ _ => rfl) (fun _ _ => rfl) (fun q hq => by rw [pk_un hq, xo q hq]) (fun q hq => pk_un hq) (fun _ _ => rfl)), hB, rfl⟩
      · show (h + (cX86 en pl rp mk la h g).1.toNatClampNeg, pl + (cX86 en pl rp mk la h g).1, (cX86 en pl rp mk la h g).2.1, (cX86 en pl rp mk la h g).2.2.1, (cX86 en pl rp mk la h g).2.2.2.1, (cX86 en pl rp mk la h g).2.2.2.2, pf) = _
        rw [hA]; rfl
      · refine ⟨1, km, pl_self pl 1, by decide, by omega, rfl, hkm, fun b hb b1 b2 _ => ?_⟩
        refine ⟨by omega, ?_⟩
        show cSg (g (h + 1 + (4 - 1 - b))) = 0
        rw [show h + 1 + (4 - 1 - b) = h + (4 - b) by omega]
        exact hbits b hb b1 b2
    by_cases hs : cSg (g (h + 4)) = 0
    · obtain ⟨m1, m2, m3, m4, m5, m6⟩ := mk_1 k hk
      refine one (k ||| 1) m5 (fun b hb b1 b2 => ?_) ?_ ?_
      · rcases (mk_b hk k4 hb).1 b1 b2 with rfl | ⟨q1, q2⟩
        · exact hs
        · rcases Nat.eq_zero_or_pos b with rfl | q
          · exact hs
          · exact kc b (by omega) q q1 q2
      · rw [eC, if_pos hs, m1]
      · rw [eJ, ← m2, ← ax]
        exact if_pos (by rw [e4]; exact hs)
    · have hs' : ¬ rEnd (mH M (16 * i + 4)) = 0 := by rw [e4]; exact hs
      by_cases hal : cAl (nI k) = 0
      · obtain ⟨m1, m2, m3, m4, m5, m6⟩ := mk_1 k hk
        refine one (k ||| 17) m6 (fun b hb b1 b2 => ?_) ?_ ?_
        · obtain ⟨q0, q1, q2⟩ := (mk_b hk k4 hb).2 b1 b2
          exact kc b (by omega) (by omega) q1 q2
        · rw [eC, if_neg hs, if_pos hal, m3]
        · rw [eJ, ← m4, ← ax]
          rcases al_no k hk hal with q | ⟨q1, q2, q3, q4, q5⟩
          · rw [← ax] at q
            exact (if_neg hs').trans (if_pos q)
          · rw [← ax] at q1 q2 q3 q4 q5
            exact (if_neg hs').trans ((if_neg q1).trans ((if_neg q2).trans ((if_neg q3).trans ((if_neg q4).trans (if_neg q5)))))
      · -- a number is put
        have hk4 := al_yes hk k0 k4 hal
        have eJ3 : rJ2 en st i n (mNx M) (mH M) (mM M) (mG M) (mU M) (mN M) xg (upd (mL M) i (st + mG M i)) = rJ3 en st i n (mNx M) (mH M) (mM M) (mG M) (mU M) (mN M) xg (upd (mL M) i (st + mG M i)) := by
          rcases hk4 with rfl | rfl | rfl | rfl
          · exact (if_neg hs').trans ((if_neg (by rw [ax]; decide +kernel)).trans (if_pos (by rw [ax]; decide +kernel)))
          · exact (if_neg hs').trans ((if_neg (by rw [ax]; decide +kernel)).trans ((if_neg (by rw [ax]; decide +kernel)).trans (if_pos (by rw [ax]; decide +kernel))))
          · exact (if_neg hs').trans ((if_neg (by rw [ax]; decide +kernel)).trans ((if_neg (by rw [ax]; decide +kernel)).trans ((if_neg (by rw [ax]; decide +kernel)).trans (if_pos (by rw [ax]; decide +kernel)))))
          · exact (if_neg hs').trans ((if_neg (by rw [ax]; decide +kernel)).trans ((if_neg (by rw [ax]; decide +kernel)).trans ((if_neg (by rw [ax]; decide +kernel)).trans ((if_neg (by rw [ax]; decide +kernel)).trans (if_pos (by rw [ax]; decide +kernel))))))
        have hkk : nI k = nI 0 ∨ (nI k = nI 2 ∧ cSg (g (h + 1 + 2)) = 0) ∨ (nI k = nI 4 ∧ cSg (g (h + 1 + 1)) = 0) ∨ (nI k = nI 8 ∧ cSg (g (h + 1)) = 0) := by
          rcases hk4 with rfl | rfl | rfl | rfl
          · exact Or.inl rfl
          · exact Or.inr (Or.inl ⟨rfl, kc 1 (by decide) (by decide) (by decide) (by decide)⟩)
          · exact Or.inr (Or.inr (Or.inl ⟨rfl, kc 2 (by decide) (by decide) (by decide) (by decide)⟩))
          · exact Or.inr (Or.inr (Or.inr ⟨rfl, kc 3 (by decide) (by decide) (by decide) (by decide)⟩))
        obtain ⟨hE, hT⟩ := jT_eq (en := en) (y := pl + 5) (r3 (h + 1) (by omega)) (r3 (h + 1 + 1) (by omega)) (r3 (h + 1 + 2) (by omega)) (r3 (h + 1 + 3) (by omega)) hkk
        have ew : rLo i 1 (mH M) = cLo g (h + 1) := rLo_rel (k := 1) r2 (by omega)
        obtain ⟨v, ev, eR⟩ := rJ3_eq en st i n (mNx M) (mH M) (mM M) (mG M) (mU M) (mN M) xg (upd (mL M) i (st + mG M i))
        rw [ew, ax, ← r6] at ev eR
        rw [← r6] at eJ eJ3
        rw [if_neg hs, if_neg hal] at eC
        have hT : cXt en (nI k) (cLo g (h + 1)) (pl + 5) = jT en (nI k) (cLo g (h + 1)) (pl + 5) := hT
        obtain ⟨T, eT⟩ : ∃ z, z = jT en (nI k) (cLo g (h + 1)) (pl + 5) := ⟨_, rfl⟩
        rw [← eT] at ev eR hT
        rw [hT] at eC
        refine ⟨fun _ c0 _ => ?_, _, KOk.of (mg := 5) (t := (rp + 1, 0, pl, cSetLo g (h + 1) ((T <<< ((7 : Int32) &&& 31)) >>> ((7 : Int32) &&& 31)), pf)) h1 (by decide) ?_ (give_rel (mg := 5) (rp1 := rp + 1) (mk1 := 0) (la1 := pl) (q1 := pf) (g1 := cSetLo g (h + 1) ((T <<< ((7 : Int32) &&& 31)) >>> ((7 : Int32) &&& 31))) (hf1 := jH i (mH M) T v) (uf1 := upd (mU M) i (mU M i + 1)) (xf1 := upd xg i 0) (lf1 := upd (mL M) i pl) (pf1 := mP M) hi hN hR h1 h2 (fun j hj => ?_) (cSetLo_B r3) (fun j hj => ?_) (by rw [pk_us, r7]) pk_us pk_us (fun q => absurd q (by decide)) (fun _ => ?_) (fun q => absurd rfl q)) (give_fr hi h2 (fun q hq => ?_) (fun q hq => pk_un hq) (fun q hq => by rw [pk_un hq, xo q hq]) (fun q hq => pk_un hq) (fun _ _ => rfl)), (eJ.trans (eJ3.trans eR)), rfl⟩
        · have q := hE (by rw [← ax]; exact c0)
          show rEnd _ = 0
          rw [ew, ax, ← r6]
          exact q
        · show (h + (cX86 en pl rp mk la h g).1.toNatClampNeg, pl + (cX86 en pl rp mk la h g).1, (cX86 en pl rp mk la h g).2.1, (cX86 en pl rp mk la h g).2.2.1, (cX86 en pl rp mk la h g).2.2.2.1, (cX86 en pl rp mk la h g).2.2.2.2, pf) = _
          rw [eC]; rfl
        · show jH i (mH M) T v (16 * i + j) = cSetLo g (h + 1) _ (h + j)
          unfold jH
          rcases (show j = 0 ∨ j = 1 ∨ j = 2 ∨ j = 3 ∨ j = 4 ∨ 5 ≤ j by omega) with rfl | rfl | rfl | rfl | rfl | q
          · rw [pk_un (by omega), pk_un (by omega), pk_un (by omega), pk_un (by omega), cSetLo_n _ _ (by omega)]; exact e0
          · rw [pk_un (by omega), pk_un (by omega), pk_un (by omega), pk_us, cSetLo_0, bJ0]
          · rw [pk_un (by omega), pk_un (by omega), pk_us, show h + 2 = h + 1 + 1 from rfl, cSetLo_1, bJ8]
          · rw [pk_un (by omega), pk_us, show h + 3 = h + 1 + 2 from rfl, cSetLo_2, bJ16]
          · rw [pk_us, show h + 4 = h + 1 + 3 from rfl, cSetLo_3, ev]
            by_cases q : bt T 24 = true
            · rw [bJ24t T q, if_pos (bJat T q)]; rfl
            · have q : bt T 24 = false := by simpa using q
              rw [bJ24f T q, if_neg (by rw [bJaf T q]; decide)]; rfl
          · rw [pk_un (by omega), pk_un (by omega), pk_un (by omega), pk_un (by omega), cSetLo_n _ _ (by omega), r2 j hj]
        · have hj : j < h := hj
          exact cSetLo_n _ _ (by omega)
        · refine ⟨5, 0, pl_self pl 5, by decide, by omega, rfl, by decide, fun b _ b1 _ _ => ?_⟩
          rw [Nat.zero_testBit] at b1; cases b1
        · unfold jH
          rw [pk_un (by omega), pk_un (by omega), pk_un (by omega), pk_un (by omega)]
  · have n1 : ¬ g h = 232 := fun q => hc (Or.inl q)
    have n2 : ¬ g h = 233 := fun q => hc (Or.inr q)
    have eJ : rJump en st i n (mNx M) (mH M) (mM M) (mG M) (mU M) (mN M) (mX M) (mL M) = (nI (mNx M + 1), rSh (mH M) (16 * i) 1 (n - 1), upd (mM M) i (nI (n - 1)), upd (mG M) i (mG M i + nI 1), mU M, rCp (mN M) (mNx M) (fun k => mH M (16 * i + k)) 1, mX M, mL M) := (if_neg (fun q => n1 (e0.symm.trans q))).trans (if_neg (fun q => n2 (e0.symm.trans q)))
    have eC : cX86 en pl rp mk la h g = (1, rp, mk, la, g) := (if_neg n1).trans (if_neg n2)
    refine ⟨fun q => absurd q (fun q => hbad eJ rfl q), _, KOk.of (mg := 1) (t := (rp, mk, la, g, pf)) (by omega) (by decide) ?_ (give_rel (mg := 1) (rp1 := rp) (mk1 := mk) (la1 := la) (q1 := pf) (g1 := g) (hf1 := mH M) (uf1 := mU M) (xf1 := mX M) (lf1 := mL M) (pf1 := mP M) hi hN hR (by omega) h2 r2 r3 (fun _ _ => rfl) r7 r8 r9 (fun q => absurd q (by decide)) (fun _ => ?_) (fun q => absurd rfl q)) (give_fr hi h2 (fun _ _ => rfl) (fun _ _ => rfl) (fun _ _ => rfl) (fun _ _ => rfl) (fun _ _ => rfl)), eJ, rfl⟩
    · show (h + (cX86 en pl rp mk la h g).1.toNatClampNeg, pl + (cX86 en pl rp mk la h g).1, (cX86 en pl rp mk la h g).2.1, (cX86 en pl rp mk la h g).2.2.1, (cX86 en pl rp mk la h g).2.2.2.1, (cX86 en pl rp mk la h g).2.2.2.2, pf) = _
      rw [eC]; rfl
    · obtain ⟨dd, mkn, eD, d1, d2, ek, hk, hB⟩ := hX
      refine ⟨dd + 1, mkn, ?_, by omega, by omega, ek, hk, fun b hb b1 b2 b3 => ?_⟩
      · show pl + nI 1 - la = _
        rw [pl_on, eD, nI_add]
      · obtain ⟨q1, q2⟩ := hB b hb b1 b2 (by omega)
        refine ⟨by omega, ?_⟩
        show cSg (g (h + 1 + (4 - (dd + 1) - b))) = 0
        rw [show h + 1 + (4 - (dd + 1) - b) = h + (4 - dd - b) by omega]
        exact q2
theorem up_n {f : Nat → Int32} {k j : Nat} {x : Int32} (h : k < j) : upd f k x j = f j := pk_un (by omega)
/-- a step changes no byte behind those that its kind wants to see -/
theorem cNext_out {kn : Nat} {en ds : Int32} {s : cRS} {j : Nat} (hkn : kn < 8) (hj : s.1 + cNeed kn ≤ j) : (cNext kn en ds s).2.2.2.2.2.1 j = s.2.2.2.2.2.1 j := by
  obtain ⟨h, pl, rp, mk, la, g, pf⟩ := s
  have hj : h + cNeed kn ≤ j := hj
  show (cStep kn en pl ds rp mk la h g pf).2.2.2.2.1 j = g j
  rcases (show kn = 0 ∨ kn = 1 ∨ kn = 2 ∨ kn = 3 ∨ kn = 4 ∨ kn = 5 ∨ kn = 6 ∨ kn = 7 by omega) with rfl | rfl | rfl | rfl | rfl | rfl | rfl | rfl
  · rfl
  · have hj : h + 1 ≤ j := hj
    show (cDelta en pl ds h g pf).2.1 j = g j
    unfold cDelta; split <;> exact up_n (by omega)
  · have hj : h + 5 ≤ j := hj
    show (cX86 en pl rp mk la h g).2.2.2.2 j = g j
    unfold cX86; repeat' split
    all_goals first | rfl | exact cSetLo_n _ _ (by omega)
  · have hj : h + 4 ≤ j := hj
    show (cArm en pl rp h g).2.2 j = g j
    unfold cArm; split
    · exact cSetLo_n _ _ (by omega)
    · rfl
  · have hj : h + 4 ≤ j := hj
    show (cThumb en pl rp h g).2.2 j = g j
    unfold cThumb; repeat' split
    all_goals first | rfl | (show upd _ _ _ j = _; rw [up_n (by omega), up_n (by omega), up_n (by omega), up_n (by omega)])
  · have hj : h + 4 ≤ j := hj
    show (cPower en pl rp h g).2.2 j = g j
    unfold cPower; repeat' split
    all_goals first | rfl | exact cSetHi_n _ _ (by omega)
  · have hj : h + 4 ≤ j := hj
    show (cSparc en pl rp h g).2.2 j = g j
    unfold cSparc; repeat' split
    all_goals first | rfl | exact cSetHi_n _ _ (by omega)
  · have hj : h + 8 ≤ j := hj
    show (cRisc en pl rp h g).2.2 j = g j
    unfold cRisc; repeat' split
    all_goals first | rfl | exact cSetLo_n _ _ (by omega) | (show (cRp _ _ _ _ _ _ _ _).2 j = _; unfold cRp; repeat' split)
    all_goals first | rfl | (show cSetLo _ _ _ j = _; rw [cSetLo_n _ _ (by omega), cSetLo_n _ _ (by omega)])
