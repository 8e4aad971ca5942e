/-! the kinds, step by step -/
theorem cSetLo_0 (g : Nat → Int32) (h : Nat) (v : Int32) : cSetLo g h v h = v &&& 255 := by simp [cSetLo, upd]
theorem cSetLo_1 (g : Nat → Int32) (h : Nat) (v : Int32) : cSetLo g h v (h + 1) = kU v 8 &&& 255 := by simp [cSetLo, upd]
theorem cSetLo_2 (g : Nat → Int32) (h : Nat) (v : Int32) : cSetLo g h v (h + 2) = kU v 16 &&& 255 := by simp [cSetLo, upd]
theorem cSetLo_3 (g : Nat → Int32) (h : Nat) (v : Int32) : cSetLo g h v (h + 3) = kU v 24 := by simp [cSetLo, upd]
theorem cSetLo_n (g : Nat → Int32) {h q : Nat} (v : Int32) (hq : q < h ∨ h + 4 ≤ q) : cSetLo g h v q = g q := by
  unfold cSetLo; rw [pk_un (by omega), pk_un (by omega), pk_un (by omega), pk_un (by omega)]
theorem cSetHi_0 (g : Nat → Int32) (h : Nat) (v : Int32) : cSetHi g h v h = kU v 24 := by simp [cSetHi, upd]
theorem cSetHi_1 (g : Nat → Int32) (h : Nat) (v : Int32) : cSetHi g h v (h + 1) = kU v 16 &&& 255 := by simp [cSetHi, upd]
theorem cSetHi_2 (g : Nat → Int32) (h : Nat) (v : Int32) : cSetHi g h v (h + 2) = kU v 8 &&& 255 := by simp [cSetHi, upd]
theorem cSetHi_3 (g : Nat → Int32) (h : Nat) (v : Int32) : cSetHi g h v (h + 3) = v &&& 255 := by simp [cSetHi, upd]
theorem cSetHi_n (g : Nat → Int32) {h q : Nat} (v : Int32) (hq : q < h ∨ h + 4 ≤ q) : cSetHi g h v q = g q := by
  unfold cSetHi; rw [pk_un (by omega), pk_un (by omega), pk_un (by omega), pk_un (by omega)]
theorem cSetLo_B {g : Nat → Int32} {h N : Nat} {v : Int32} (hg : ∀ j, j < N → isB (g j)) : ∀ j, j < N → isB (cSetLo g h v j) := by
  intro j hj
  rcases (show j < h ∨ h + 4 ≤ j ∨ j = h ∨ j = h + 1 ∨ j = h + 2 ∨ j = h + 3 by omega) with q | q | rfl | rfl | rfl | rfl
  · rw [cSetLo_n g v (Or.inl q)]; exact hg j hj
  · rw [cSetLo_n g v (Or.inr q)]; exact hg j hj
  · rw [cSetLo_0]; exact isB_and _
  · rw [cSetLo_1]; exact isB_and _
  · rw [cSetLo_2]; exact isB_and _
  · rw [cSetLo_3]; exact bK24 v
theorem cSetHi_B {g : Nat → Int32} {h N : Nat} {v : Int32} (hg : ∀ j, j < N → isB (g j)) : ∀ j, j < N → isB (cSetHi g h v j) := by
  intro j hj
  rcases (show j < h ∨ h + 4 ≤ j ∨ j = h ∨ j = h + 1 ∨ j = h + 2 ∨ j = h + 3 by omega) with q | q | rfl | rfl | rfl | rfl
  · rw [cSetHi_n g v (Or.inl q)]; exact hg j hj
  · rw [cSetHi_n g v (Or.inr q)]; exact hg j hj
  · rw [cSetHi_0]; exact bK24 v
  · rw [cSetHi_1]; exact isB_and _
  · rw [cSetHi_2]; exact isB_and _
  · rw [cSetHi_3]; exact isB_and _
/-- the model's way of setting four bytes -/
theorem rSetLo_rel {hf g : Nat → Int32} {i n h k : Nat} (v : Int32) (hr : ∀ j, j < n → hf (16 * i + j) = g (h + j)) (hk : k + 4 ≤ n) : ∀ j, j < n → rSetLo i k v hf (16 * i + j) = cSetLo g (h + k) v (h + j) := by
  intro j hj
  unfold rSetLo
  rcases (show j < k ∨ k + 4 ≤ j ∨ j = k ∨ j = k + 1 ∨ j = k + 2 ∨ j = k + 3 by omega) with q | q | rfl | rfl | rfl | rfl
  · rw [cSetLo_n g v (Or.inl (by omega)), pk_un (by omega), pk_un (by omega), pk_un (by omega), pk_un (by omega), hr j hj]
  · rw [cSetLo_n g v (Or.inr (by omega)), pk_un (by omega), pk_un (by omega), pk_un (by omega), pk_un (by omega), hr j hj]
  · rw [cSetLo_0, pk_un (by omega), pk_un (by omega), pk_un (by omega)]; exact pk_us.trans (bS0 v)
  · rw [show h + (k + 1) = (h + k) + 1 from rfl, cSetLo_1, pk_un (by omega), pk_un (by omega)]; exact pk_us.trans (bS8 v)
  · rw [show h + (k + 2) = (h + k) + 2 from rfl, cSetLo_2, pk_un (by omega)]; exact pk_us.trans (bS16 v)
  · rw [show h + (k + 3) = (h + k) + 3 from rfl, cSetLo_3]; exact pk_us.trans (bS24 v)
theorem rSetHi_rel {hf g : Nat → Int32} {i n h k : Nat} (v : Int32) (hr : ∀ j, j < n → hf (16 * i + j) = g (h + j)) (hk : k + 4 ≤ n) : ∀ j, j < n → rSetHi i k v hf (16 * i + j) = cSetHi g (h + k) v (h + j) := by
  intro j hj
  unfold rSetHi
  rcases (show j < k ∨ k + 4 ≤ j ∨ j = k ∨ j = k + 1 ∨ j = k + 2 ∨ j = k + 3 by omega) with q | q | rfl | rfl | rfl | rfl
  · rw [cSetHi_n g v (Or.inl (by omega)), pk_un (by omega), pk_un (by omega), pk_un (by omega), pk_un (by omega), hr j hj]
  · rw [cSetHi_n g v (Or.inr (by omega)), pk_un (by omega), pk_un (by omega), pk_un (by omega), pk_un (by omega), hr j hj]
  · rw [cSetHi_0, pk_un (by omega), pk_un (by omega), pk_un (by omega)]; exact pk_us.trans (bS24 v)
  · rw [show h + (k + 1) = (h + k) + 1 from rfl, cSetHi_1, pk_un (by omega), pk_un (by omega)]; exact pk_us.trans (bS16 v)
  · rw [show h + (k + 2) = (h + k) + 2 from rfl, cSetHi_2, pk_un (by omega)]; exact pk_us.trans (bS8 v)
  · rw [show h + (k + 3) = (h + k) + 3 from rfl, cSetHi_3]; exact pk_us.trans (bS0 v)
theorem rSetLo_out {hf : Nat → Int32} {i k : Nat} (v : Int32) (hk : k + 4 ≤ 16) : ∀ q, (q < 16 * i ∨ 16 * i + 16 ≤ q) → rSetLo i k v hf q = hf q := by
  intro q hq
  unfold rSetLo
  rw [pk_un (by omega), pk_un (by omega), pk_un (by omega), pk_un (by omega)]
theorem rSetHi_out {hf : Nat → Int32} {i k : Nat} (v : Int32) (hk : k + 4 ≤ 16) : ∀ q, (q < 16 * i ∨ 16 * i + 16 ≤ q) → rSetHi i k v hf q = hf q := by
  intro q hq
  unfold rSetHi
  rw [pk_un (by omega), pk_un (by omega), pk_un (by omega), pk_un (by omega)]
theorem rLo_rel {hf g : Nat → Int32} {i n h k : Nat} (hr : ∀ j, j < n → hf (16 * i + j) = g (h + j)) (hk : k + 4 ≤ n) : rLo i k hf = cLo g (h + k) := by
  unfold rLo cLo
  rw [hr k (by omega), hr (k + 1) (by omega), hr (k + 2) (by omega), hr (k + 3) (by omega)]
  exact bR1 _ _ _ _
theorem rHi_rel {hf g : Nat → Int32} {i n h k : Nat} (hr : ∀ j, j < n → hf (16 * i + j) = g (h + j)) (hk : k + 4 ≤ n) : rHi i k hf = cHi g (h + k) := by
  unfold rHi cHi
  rw [hr k (by omega), hr (k + 1) (by omega), hr (k + 2) (by omega), hr (k + 3) (by omega)]
  rfl
/-- the model's arrays behind a work that changed held bytes and the count of numbers put alone -/
def gvU (i n mg : Nat) (M : MS) (hf1 uf1 : Nat → Int32) : MS := (mNx M + mg, rSh hf1 (16 * i) mg (n - mg), upd (mM M) i (nI (n - mg)), upd (mG M) i (mG M i + nI mg), uf1, rCp (mN M) (mNx M) (fun k => hf1 (16 * i + k)) mg, mX M, mL M, mP M)
/-- what a kind's own theorem says -/
def KRes (kn : Nat) (en ds st : Int32) (gv0 N i n : Nat) (s : cRS) (M : MS) (r : Int32 × (Nat → Int32) × (Nat → Int32) × (Nat → Int32) × (Nat → Int32) × (Nat → Int32)) : Prop :=
  ∃ u : MS, KOk kn en ds st gv0 N i n s M u ∧ r = (nI (mNx u), mH u, mM u, mG u, mU u, mN u) ∧ mX u = mX M ∧ mL u = mL M ∧ mP u = mP M
theorem KRes.same {kn : Nat} {en ds st : Int32} {gv0 N i n mg : Nat} {s : cRS} {M : MS} {r : Int32 × (Nat → Int32) × (Nat → Int32) × (Nat → Int32) × (Nat → Int32) × (Nat → Int32)} (k1 : kn ≠ 1) (k2 : kn ≠ 2) (hi : i < 4) (hN : N ≤ 64) (hR : RRel kn st gv0 N i n s M) (h1 : mg ≤ n) (h0 : 0 < mg) (h2 : n ≤ 16)
    (he : cNext kn en ds s = (s.1 + mg, s.2.1 + nI mg, s.2.2)) (hr : r = (nI (mNx M + mg), rSh (mH M) (16 * i) mg (n - mg), upd (mM M) i (nI (n - mg)), upd (mG M) i (mG M i + nI mg), mU M, rCp (mN M) (mNx M) (fun k => mH M (16 * i + k)) mg)) : KRes kn en ds st gv0 N i n s M r := by
  have hR' := hR
  obtain ⟨r1, r2, r3, r4, r5, r6, r7, r8, r9, r10, r11, r12, r13, r14⟩ := hR'
  obtain ⟨a, b⟩ := kind_rel (mg := mg) k1 k2 hi hN hR h1 h2 r2 r3 (fun _ _ => rfl) r7 (fun _ _ => rfl) (fun _ _ => rfl)
  exact ⟨_, KOk.of h1 h0 he a b, hr, rfl, rfl, rfl⟩
theorem KRes.chg {kn : Nat} {en ds st : Int32} {gv0 N i n mg : Nat} {s : cRS} {M : MS} {r : Int32 × (Nat → Int32) × (Nat → Int32) × (Nat → Int32) × (Nat → Int32) × (Nat → Int32)} {hf1 g1 : Nat → Int32} (k1 : kn ≠ 1) (k2 : kn ≠ 2) (hi : i < 4) (hN : N ≤ 64) (hR : RRel kn st gv0 N i n s M) (h1 : mg ≤ n) (h0 : 0 < mg) (h2 : n ≤ 16)
    (he : cNext kn en ds s = (s.1 + mg, s.2.1 + nI mg, s.2.2.1 + 1, s.2.2.2.1, s.2.2.2.2.1, g1, s.2.2.2.2.2.2)) (hr : r = (nI (mNx M + mg), rSh hf1 (16 * i) mg (n - mg), upd (mM M) i (nI (n - mg)), upd (mG M) i (mG M i + nI mg), upd (mU M) i (mU M i + 1), rCp (mN M) (mNx M) (fun k => hf1 (16 * i + k)) mg))
    (q1 : ∀ j, j < n → hf1 (16 * i + j) = g1 (s.1 + j)) (q2 : ∀ j, j < N → isB (g1 j)) (q3 : ∀ j, j < s.1 → g1 j = s.2.2.2.2.2.1 j) (f1 : ∀ q, (q < 16 * i ∨ 16 * i + 16 ≤ q) → hf1 q = mH M q) : KRes kn en ds st gv0 N i n s M r := by
  have hR' := hR
  obtain ⟨r1, r2, r3, r4, r5, r6, r7, r8, r9, r10, r11, r12, r13, r14⟩ := hR'
  obtain ⟨a, b⟩ := kind_rel (mg := mg) (hf1 := hf1) (uf1 := upd (mU M) i (mU M i + 1)) (g1 := g1) (rp1 := s.2.2.1 + 1) k1 k2 hi hN hR h1 h2 q1 q2 q3 (by rw [pk_us, r7]) f1 (fun k hk => pk_un hk)
  exact ⟨_, KOk.of h1 h0 he a b, hr, rfl, rfl, rfl⟩
set_option maxHeartbeats 2000000 in
theorem k_arm {en ds st : Int32} {gv0 N i n : Nat} {s : cRS} {M : MS} (hi : i < 4) (hN : N ≤ 64) (hR : RRel 3 st gv0 N i n s M) (h1 : 4 ≤ n) (h2 : n ≤ 16) :
    KRes 3 en ds st gv0 N i n s M (rArm en st i n (mNx M) (mH M) (mM M) (mG M) (mU M) (mN M)) := by
  have hR' := hR
  obtain ⟨r1, r2, r3, r4, r5, r6, r7, r8, r9, r10, r11, r12, r13, r14⟩ := hR'
  obtain ⟨h, pl, rp, mk, la, g, pf⟩ := s
  dsimp only at r2 r3 r4 r5 r6 r7 r8 r9 r12
  have b0 := r3 h (by omega)
  have b1 := r3 (h + 1) (by omega)
  have b2 := r3 (h + 2) (by omega)
  have b3 := r3 (h + 3) (by omega)
  have e0 : mH M (16 * i + 0) = g h := r2 0 (by omega)
  have e1 := r2 1 (by omega)
  have e2 := r2 2 (by omega)
  have e3 := r2 3 (by omega)
  have ec : kU (cLo g h) 24 = g (h + 3) := bA1 _ _ _ _ b0 b1 b2 b3
  have en2 : cLo g h &&& 16777215 = ((g h ||| g (h + 1) <<< ((8 : Int32) &&& 31)) ||| g (h + 2) <<< ((16 : Int32) &&& 31)) := bA2 _ _ _ _ b0 b1 b2 b3
  by_cases hc : g (h + 3) = 235
  · obtain ⟨t, et⟩ : ∃ z, z = kU (rMd en (4 * (cLo g h &&& 16777215)) (pl + 8)) 2 := ⟨_, rfl⟩
    have hA : cArm en pl rp h g = (4, rp + 1, cSetLo g h ((-352321536) ||| (t &&& 16777215))) := by rw [et]; exact if_pos (ec.trans hc)
    refine KRes.chg (mg := 4) (hf1 := upd (upd (upd (mH M) (16 * i + 0) (t &&& 255)) (16 * i + 1) ((t >>> ((8 : Int32) &&& 31)) &&& 255)) (16 * i + 2) ((t >>> ((16 : Int32) &&& 31)) &&& 255)) (g1 := cSetLo g h ((-352321536) ||| (t &&& 16777215))) (by decide) (by decide) hi hN hR h1 (by decide) h2 ?_ ?_ (fun j hj => ?_) (cSetLo_B r3) (fun j hj => cSetLo_n _ _ (Or.inl hj)) (fun q hq => by rw [pk_un (by omega), pk_un (by omega), pk_un (by omega)])
    · show (h + (cArm en pl rp h g).1.toNatClampNeg, pl + (cArm en pl rp h g).1, (cArm en pl rp h g).2.1, mk, la, (cArm en pl rp h g).2.2, pf) = _
      rw [hA]; rfl
    · rw [et, en2, r6, ← e0, ← e1, ← e2]; exact if_pos (e3.trans hc)
    · show _ = cSetLo g h _ (h + j)
      rcases (show j = 0 ∨ j = 1 ∨ j = 2 ∨ j = 3 ∨ 4 ≤ j by omega) with rfl | rfl | rfl | rfl | q
      · rw [pk_un (by omega), pk_un (by omega), pk_us, Nat.add_zero, cSetLo_0, bA3]
      · rw [pk_un (by omega), pk_us, cSetLo_1, bA4]
      · rw [pk_us, cSetLo_2, bA5]
      · rw [pk_un (by omega), pk_un (by omega), pk_un (by omega), cSetLo_3, bA6, e3, hc]
      · rw [pk_un (by omega), pk_un (by omega), pk_un (by omega), cSetLo_n _ _ (by omega), r2 j hj]
  · have hA : cArm en pl rp h g = (4, rp, g) := if_neg (fun q => hc (ec.symm.trans q))
    refine KRes.same (mg := 4) (by decide) (by decide) hi hN hR h1 (by decide) h2 ?_ (if_neg (fun q => hc (e3.symm.trans q)))
    show (h + (cArm en pl rp h g).1.toNatClampNeg, pl + (cArm en pl rp h g).1, (cArm en pl rp h g).2.1, mk, la, (cArm en pl rp h g).2.2, pf) = _
    rw [hA]; rfl
set_option maxHeartbeats 2000000 in
theorem k_power {en ds st : Int32} {gv0 N i n : Nat} {s : cRS} {M : MS} (hi : i < 4) (hN : N ≤ 64) (hR : RRel 5 st gv0 N i n s M) (h1 : 4 ≤ n) (h2 : n ≤ 16) :
    KRes 5 en ds st gv0 N i n s M (rPower en st i n (mNx M) (mH M) (mM M) (mG M) (mU M) (mN M)) := by
  have hR' := hR
  obtain ⟨r1, r2, r3, r4, r5, r6, r7, r8, r9, r10, r11, r12, r13, r14⟩ := hR'
  obtain ⟨h, pl, rp, mk, la, g, pf⟩ := s
  dsimp only at r2 r3 r4 r5 r6 r7 r8 r9 r12
  have ew : rHi i 0 (mH M) = cHi g h := rHi_rel (k := 0) r2 (by omega)
  have same : cPower en pl rp h g = (4, rp, g) → rPower en st i n (mNx M) (mH M) (mM M) (mG M) (mU M) (mN M) = (nI (mNx M + 4), rSh (mH M) (16 * i) 4 (n - 4), upd (mM M) i (nI (n - 4)), upd (mG M) i (mG M i + nI 4), mU M, rCp (mN M) (mNx M) (fun k => mH M (16 * i + k)) 4) → KRes 5 en ds st gv0 N i n (h, pl, rp, mk, la, g, pf) M (rPower en st i n (mNx M) (mH M) (mM M) (mG M) (mU M) (mN M)) := by
    intro hA hB
    refine KRes.same (mg := 4) (by decide) (by decide) hi hN hR h1 (by decide) h2 ?_ hB
    show (h + (cPower en pl rp h g).1.toNatClampNeg, pl + (cPower en pl rp h g).1, (cPower en pl rp h g).2.1, mk, la, (cPower en pl rp h g).2.2, pf) = _
    rw [hA]; rfl
  by_cases hc : kU (cHi g h) 26 = 18
  · by_cases hd : cHi g h &&& 3 = 1
    · obtain ⟨v, ev⟩ : ∃ z, z = ((cHi g h &&& (-67108861)) ||| (rMd en (cHi g h &&& 67108860) pl &&& 67108860)) := ⟨_, rfl⟩
      have hA : cPower en pl rp h g = (4, rp + 1, cSetHi g h v) := by rw [ev]; exact (if_pos hc).trans (if_pos hd)
      refine KRes.chg (mg := 4) (hf1 := rSetHi i 0 v (mH M)) (g1 := cSetHi g h v) (by decide) (by decide) hi hN hR h1 (by decide) h2 ?_ ?_ (rSetHi_rel (k := 0) v r2 (by omega)) (cSetHi_B r3) (fun j hj => cSetHi_n _ _ (Or.inl hj)) (rSetHi_out v (by omega))
      · show (h + (cPower en pl rp h g).1.toNatClampNeg, pl + (cPower en pl rp h g).1, (cPower en pl rp h g).2.1, mk, la, (cPower en pl rp h g).2.2, pf) = _
        rw [hA]; rfl
      · rw [ev, r6, ← ew]; exact (if_pos (by rw [ew]; exact hc)).trans (if_pos (by rw [ew]; exact hd))
    · exact same ((if_pos hc).trans (if_neg hd)) ((if_pos (by rw [ew]; exact hc)).trans (if_neg (by rw [ew]; exact hd)))
  · exact same (if_neg hc) (if_neg (by rw [ew]; exact hc))
set_option maxHeartbeats 2000000 in
theorem k_thumb {en ds st : Int32} {gv0 N i n : Nat} {s : cRS} {M : MS} (hi : i < 4) (hN : N ≤ 64) (hR : RRel 4 st gv0 N i n s M) (h1 : 4 ≤ n) (h2 : n ≤ 16) :
    KRes 4 en ds st gv0 N i n s M (rThumb en st i n (mNx M) (mH M) (mM M) (mG M) (mU M) (mN M)) := by
  have hR' := hR
  obtain ⟨r1, r2, r3, r4, r5, r6, r7, r8, r9, r10, r11, r12, r13, r14⟩ := hR'
  obtain ⟨h, pl, rp, mk, la, g, pf⟩ := s
  dsimp only at r2 r3 r4 r5 r6 r7 r8 r9 r12
  have b1 := r3 (h + 1) (by omega)
  have b3 := r3 (h + 3) (by omega)
  have e0 : mH M (16 * i + 0) = g h := r2 0 (by omega)
  have e1 := r2 1 (by omega)
  have e2 := r2 2 (by omega)
  have e3 := r2 3 (by omega)
  have c1 : mH M (16 * i + 1) >>> ((3 : Int32) &&& 31) = kU (g (h + 1)) 3 := by rw [e1]; exact bT1 _ b1
  have c3 : mH M (16 * i + 3) >>> ((3 : Int32) &&& 31) = kU (g (h + 3)) 3 := by rw [e3]; exact bT1 _ b3
  have same : cThumb en pl rp h g = (2, rp, g) → rThumb en st i n (mNx M) (mH M) (mM M) (mG M) (mU M) (mN M) = (nI (mNx M + 2), rSh (mH M) (16 * i) 2 (n - 2), upd (mM M) i (nI (n - 2)), upd (mG M) i (mG M i + nI 2), mU M, rCp (mN M) (mNx M) (fun k => mH M (16 * i + k)) 2) → KRes 4 en ds st gv0 N i n (h, pl, rp, mk, la, g, pf) M (rThumb en st i n (mNx M) (mH M) (mM M) (mG M) (mU M) (mN M)) := by
    intro hA hB
    refine KRes.same (mg := 2) (by decide) (by decide) hi hN hR (by omega) (by decide) h2 ?_ hB
    show (h + (cThumb en pl rp h g).1.toNatClampNeg, pl + (cThumb en pl rp h g).1, (cThumb en pl rp h g).2.1, mk, la, (cThumb en pl rp h g).2.2, pf) = _
    rw [hA]; rfl
  by_cases hc : kU (g (h + 1)) 3 = 30
  · by_cases hd : kU (g (h + 3)) 3 = 31
    · obtain ⟨t, et⟩ : ∃ z, z = kU (rMd en (2 * ((((((g (h + 1)) &&& 7) <<< ((19 : Int32) &&& 31)) ||| ((g h) <<< ((11 : Int32) &&& 31))) ||| (((g (h + 3)) &&& 7) <<< ((8 : Int32) &&& 31))) ||| (g (h + 2)))) (pl + 4)) 1 := ⟨_, rfl⟩
      have hA : cThumb en pl rp h g = (4, rp + 1, upd (upd (upd (upd g h (kU t 11 &&& 255)) (h + 1) ((240 ||| (kU t 19 &&& 7)) &&& 255)) (h + 2) (t &&& 255)) (h + 3) ((248 ||| (kU t 8 &&& 7)) &&& 255)) := by rw [et]; exact (if_pos hc).trans (if_pos hd)
      refine KRes.chg (mg := 4) (hf1 := upd (upd (upd (upd (mH M) (16 * i + 1) ((240 ||| ((t >>> ((19 : Int32) &&& 31)) &&& 7)) &&& 255)) (16 * i + 0) ((t >>> ((11 : Int32) &&& 31)) &&& 255)) (16 * i + 3) ((248 ||| ((t >>> ((8 : Int32) &&& 31)) &&& 7)) &&& 255)) (16 * i + 2) (t &&& 255)) (g1 := upd (upd (upd (upd g h (kU t 11 &&& 255)) (h + 1) ((240 ||| (kU t 19 &&& 7)) &&& 255)) (h + 2) (t &&& 255)) (h + 3) ((248 ||| (kU t 8 &&& 7)) &&& 255)) (by decide) (by decide) hi hN hR h1 (by decide) h2 ?_ ?_ (fun j hj => ?_) (fun j hj => ?_) (fun j hj => ?_) (fun q hq => by rw [pk_un (by omega), pk_un (by omega), pk_un (by omega), pk_un (by omega)])
      · show (h + (cThumb en pl rp h g).1.toNatClampNeg, pl + (cThumb en pl rp h g).1, (cThumb en pl rp h g).2.1, mk, la, (cThumb en pl rp h g).2.2, pf) = _
        rw [hA]; rfl
      · rw [et, r6, ← e0, ← e1, ← e2, ← e3]; exact (if_pos (by rw [c1]; exact hc)).trans (if_pos (by rw [c3]; exact hd))
      · show _ = upd _ _ _ (h + j)
        rcases (show j = 0 ∨ j = 1 ∨ j = 2 ∨ j = 3 ∨ 4 ≤ j by omega) with rfl | rfl | rfl | rfl | q
        · rw [pk_un (by omega), pk_un (by omega), pk_us]
          show _ = upd (upd (upd (upd g h _) (h + 1) _) (h + 2) _) (h + 3) _ h
          rw [pk_un (by omega), pk_un (by omega), pk_un (by omega), pk_us, bT2]
        · rw [pk_un (by omega), pk_un (by omega), pk_un (by omega), pk_us, pk_un (by omega), pk_un (by omega), pk_us, bT3]
        · rw [pk_us, pk_un (by omega), pk_us]
        · rw [pk_un (by omega), pk_us, pk_us, bT4]
        · rw [pk_un (by omega), pk_un (by omega), pk_un (by omega), pk_un (by omega), pk_un (by omega), pk_un (by omega), pk_un (by omega), pk_un (by omega), r2 j hj]
      · rcases (show j = h ∨ j = h + 1 ∨ j = h + 2 ∨ j = h + 3 ∨ (j ≠ h ∧ j ≠ h + 1 ∧ j ≠ h + 2 ∧ j ≠ h + 3) by omega) with rfl | rfl | rfl | rfl | ⟨q1, q2, q3, q4⟩
        · rw [pk_un (by omega), pk_un (by omega), pk_un (by omega), pk_us]; exact isB_and _
        · rw [pk_un (by omega), pk_un (by omega), pk_us]; exact isB_and _
        · rw [pk_un (by omega), pk_us]; exact isB_and _
        · rw [pk_us]; exact isB_and _
        · rw [pk_un q4, pk_un q3, pk_un q2, pk_un q1]; exact r3 j hj
      · show upd _ _ _ j = _
        have hj : j < h := hj
        rw [pk_un (by omega), pk_un (by omega), pk_un (by omega), pk_un (by omega)]
    · exact same ((if_pos hc).trans (if_neg hd)) ((if_pos (by rw [c1]; exact hc)).trans (if_neg (by rw [c3]; exact hd)))
  · exact same (if_neg hc) (if_neg (by rw [c1]; exact hc))
