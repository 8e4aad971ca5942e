/-! the class's filter and the model's arrays -/
abbrev MS : Type := Nat × (Nat → Int32) × (Nat → Int32) × (Nat → Int32) × (Nat → Int32) × (Nat → Int32) × (Nat → Int32) × (Nat → Int32) × (Nat → Int32)
abbrev mNx (M : MS) : Nat := M.1
abbrev mH (M : MS) : Nat → Int32 := M.2.1
abbrev mM (M : MS) : Nat → Int32 := M.2.2.1
abbrev mG (M : MS) : Nat → Int32 := M.2.2.2.1
abbrev mU (M : MS) : Nat → Int32 := M.2.2.2.2.1
abbrev mN (M : MS) : Nat → Int32 := M.2.2.2.2.2.1
abbrev mX (M : MS) : Nat → Int32 := M.2.2.2.2.2.2.1
abbrev mL (M : MS) : Nat → Int32 := M.2.2.2.2.2.2.2.1
abbrev mP (M : MS) : Nat → Int32 := M.2.2.2.2.2.2.2.2
/-- X86: how far LAST is behind; a bit of the MASK without its partner tells that a byte was no sign byte -/
def XI (mk D : Int32) (top : Nat) (g : Nat → Int32) (h n : Nat) : Prop :=
  ∃ dd mkn : Nat, D = nI dd ∧ 1 ≤ dd ∧ dd ≤ 5 + top ∧ mk = nI mkn ∧ mkn < 256 ∧ ∀ b, b < 3 → mkn.testBit b = true → mkn.testBit (b + 4) = false → dd + b ≤ 4 → (4 - dd - b < n ∧ cSg (g (h + (4 - dd - b))) = 0)
def RRel (kn : Nat) (st : Int32) (gv0 N i n : Nat) (s : cRS) (M : MS) : Prop :=
  mM M i = nI n ∧ (∀ j, j < n → mH M (16 * i + j) = s.2.2.2.2.2.1 (s.1 + j)) ∧ (∀ j, j < N → isB (s.2.2.2.2.2.1 j)) ∧ s.1 + n ≤ N ∧
  mG M i = nI (gv0 + s.1) ∧ s.2.1 = st + mG M i ∧ mU M i = s.2.2.1 ∧ mX M i = s.2.2.2.1 ∧ mL M i = s.2.2.2.2.1 ∧
  (kn = 1 → ∀ d, 1 ≤ d → d ≤ 32 → mP M (32 * i + (d - 1)) = s.2.2.2.2.2.2 (b5 (s.2.1 - nI d))) ∧ mNx M = s.1 ∧ (∀ j, j < s.1 → mN M j = s.2.2.2.2.2.1 j) ∧
  (kn = 2 → XI s.2.2.2.1 (s.2.1 - s.2.2.2.2.1) (gv0 + s.1) s.2.2.2.2.2.1 s.1 n) ∧ (kn ≠ 2 → s.2.2.2.1 = 0)
/-- what a filter's work leaves as it was -/
def MFr (i : Nat) (M U : MS) : Prop := ∀ k, k < 4 → k ≠ i → (∀ j, j < 16 → mH U (16 * k + j) = mH M (16 * k + j)) ∧ mM U k = mM M k ∧ mG U k = mG M k ∧ mU U k = mU M k ∧ mX U k = mX M k ∧ mL U k = mL M k ∧ ∀ j, j < 32 → mP U (32 * k + j) = mP M (32 * k + j)
theorem MFr.rf (i : Nat) (M : MS) : MFr i M M := fun _ _ _ => ⟨fun _ _ => rfl, rfl, rfl, rfl, rfl, rfl, fun _ _ => rfl⟩
theorem MFr.trans {i : Nat} {M U V : MS} (h1 : MFr i M U) (h2 : MFr i U V) : MFr i M V := fun k hk hi => by
  obtain ⟨a1, a2, a3, a4, a5, a6, a7⟩ := h1 k hk hi
  obtain ⟨b1, b2, b3, b4, b5, b6, b7⟩ := h2 k hk hi
  exact ⟨fun j hj => (b1 j hj).trans (a1 j hj), b2.trans a2, b3.trans a3, b4.trans a4, b5.trans a5, b6.trans a6, fun j hj => (b7 j hj).trans (a7 j hj)⟩
theorem rSh_out {hf : Nat → Int32} {b m : Nat} : ∀ (t q : Nat), (q < b ∨ b + t ≤ q) → rSh hf b m t q = hf q
  | 0, _, _ => rfl
  | t + 1, q, h => by
    show upd (rSh hf b m t) (b + t) _ q = _
    rw [pk_un (by omega), rSh_out t q (by omega)]
theorem rSh_in {hf : Nat → Int32} {b m : Nat} : ∀ (t j : Nat), j < t → rSh hf b m t (b + j) = hf (b + (m + j)) &&& 255
  | 0, _, h => absurd h (by omega)
  | t + 1, j, h => by
    show upd (rSh hf b m t) (b + t) _ (b + j) = _
    rcases Nat.lt_or_ge j t with h1 | h1
    · rw [pk_un (by omega), rSh_in t j h1]
    · have e : j = t := by omega
      subst e
      rw [pk_us, rSh_out _ _ (by omega)]
theorem rCp_out {nf : Nat → Int32} {nx : Nat} {g : Nat → Int32} : ∀ (t q : Nat), (q < nx ∨ nx + t ≤ q) → rCp nf nx g t q = nf q
  | 0, _, _ => rfl
  | t + 1, q, h => by
    show upd (rCp nf nx g t) (nx + t) _ q = _
    rw [pk_un (by omega), rCp_out t q (by omega)]
theorem rCp_in {nf : Nat → Int32} {nx : Nat} {g : Nat → Int32} : ∀ (t j : Nat), j < t → rCp nf nx g t (nx + j) = g j
  | 0, _, h => absurd h (by omega)
  | t + 1, j, h => by
    show upd (rCp nf nx g t) (nx + t) _ (nx + j) = _
    rcases Nat.lt_or_ge j t with h1 | h1
    · rw [pk_un (by omega), rCp_in t j h1]
    · have e : j = t := by omega
      subst e
      rw [pk_us]
/-- the giving at the end of each kind's work -/
theorem give_rel {kn : Nat} {st : Int32} {gv0 N i n mg : Nat} {s : cRS} {M : MS} {hf1 uf1 xf1 lf1 pf1 : Nat → Int32} {g1 q1 : Nat → Int32} {rp1 mk1 la1 : Int32}
    (hi : i < 4) (hN : N ≤ 64) (hR : RRel kn st gv0 N i n s M) (hm : mg ≤ n) (hn : n ≤ 16)
    (h1 : ∀ j, j < n → hf1 (16 * i + j) = g1 (s.1 + j)) (h2 : ∀ j, j < N → isB (g1 j)) (h3 : ∀ j, j < s.1 → g1 j = s.2.2.2.2.2.1 j) (h4 : uf1 i = rp1) (h5 : xf1 i = mk1) (h6 : lf1 i = la1)
    (h7 : kn = 1 → ∀ d, 1 ≤ d → d ≤ 32 → pf1 (32 * i + (d - 1)) = q1 (b5 (s.2.1 + nI mg - nI d)))
    (h8 : kn = 2 → XI mk1 (s.2.1 + nI mg - la1) (gv0 + (s.1 + mg)) g1 (s.1 + mg) (n - mg)) (h9 : kn ≠ 2 → mk1 = 0) :
    RRel kn st gv0 N i (n - mg) (s.1 + mg, s.2.1 + nI mg, rp1, mk1, la1, g1, q1) (mNx M + mg, rSh hf1 (16 * i) mg (n - mg), upd (mM M) i (nI (n - mg)), upd (mG M) i (mG M i + nI mg), uf1, rCp (mN M) (mNx M) (fun k => hf1 (16 * i + k)) mg, xf1, lf1, pf1) := by
  obtain ⟨r1, r2, r3, r4, r5, r6, r7, r8, r9, r10, r11, r12, r13, r14⟩ := hR
  refine ⟨pk_us, fun j hj => ?_, h2, by show s.1 + mg + (n - mg) ≤ N; omega, ?_, ?_, h4, h5, h6, h7, ?_, fun j hj => ?_, h8, h9⟩
  · show rSh hf1 (16 * i) mg (n - mg) (16 * i + j) = g1 (s.1 + mg + j)
    rw [rSh_in _ _ hj, h1 (mg + j) (by omega), ← Nat.add_assoc]
    exact h2 _ (by omega)
  · show upd (mG M) i (mG M i + nI mg) i = nI (gv0 + (s.1 + mg))
    rw [pk_us, r5, nI_add, Nat.add_assoc]
  · show s.2.1 + nI mg = st + upd (mG M) i (mG M i + nI mg) i
    rw [pk_us, r6, Int32.add_assoc]
  · show mNx M + mg = s.1 + mg
    rw [r11]
  · show rCp (mN M) (mNx M) (fun k => hf1 (16 * i + k)) mg j = g1 j
    have hj : j < s.1 + mg := hj
    rw [r11]
    rcases Nat.lt_or_ge j s.1 with hq | hq
    · rw [rCp_out _ _ (by omega), r12 j hq, h3 j hq]
    · have e : j = s.1 + (j - s.1) := by omega
      rw [e, rCp_in _ _ (by omega)]
      exact h1 _ (by omega)
/-- what is left as it was, behind the giving -/
theorem give_fr {i n mg : Nat} {M : MS} {hf1 uf1 xf1 lf1 pf1 : Nat → Int32} (hi : i < 4) (hn : n ≤ 16)
    (h1 : ∀ q, (q < 16 * i ∨ 16 * i + 16 ≤ q) → hf1 q = mH M q) (h4 : ∀ k, k ≠ i → uf1 k = mU M k) (h5 : ∀ k, k ≠ i → xf1 k = mX M k) (h6 : ∀ k, k ≠ i → lf1 k = mL M k) (h7 : ∀ q, (q < 32 * i ∨ 32 * i + 32 ≤ q) → pf1 q = mP M q) :
    MFr i M (mNx M + mg, rSh hf1 (16 * i) mg (n - mg), upd (mM M) i (nI (n - mg)), upd (mG M) i (mG M i + nI mg), uf1, rCp (mN M) (mNx M) (fun k => hf1 (16 * i + k)) mg, xf1, lf1, pf1) := by
  intro k hk hki
  refine ⟨fun j hj => ?_, pk_un hki, pk_un hki, h4 k hki, h5 k hki, h6 k hki, fun j hj => ?_⟩
  · show rSh hf1 (16 * i) mg (n - mg) (16 * k + j) = mH M (16 * k + j)
    rw [rSh_out _ _ (by omega), h1 _ (by omega)]
  · exact h7 _ (by omega)
/-- a kind that changes held bytes and the count of numbers put alone -/
theorem kind_rel {kn : Nat} {st : Int32} {gv0 N i n mg : Nat} {s : cRS} {M : MS} {hf1 uf1 : Nat → Int32} {g1 : Nat → Int32} {rp1 : Int32} (k1 : kn ≠ 1) (k2 : kn ≠ 2)
    (hi : i < 4) (hN : N ≤ 64) (hR : RRel kn st gv0 N i n s M) (hm : mg ≤ n) (hn : n ≤ 16)
    (h1 : ∀ j, j < n → hf1 (16 * i + j) = g1 (s.1 + j)) (h2 : ∀ j, j < N → isB (g1 j)) (h3 : ∀ j, j < s.1 → g1 j = s.2.2.2.2.2.1 j) (h4 : uf1 i = rp1)
    (f1 : ∀ q, (q < 16 * i ∨ 16 * i + 16 ≤ q) → hf1 q = mH M q) (f4 : ∀ k, k ≠ i → uf1 k = mU M k) :
    RRel kn st gv0 N i (n - mg) (s.1 + mg, s.2.1 + nI mg, rp1, s.2.2.2.1, s.2.2.2.2.1, g1, s.2.2.2.2.2.2) (mNx M + mg, rSh hf1 (16 * i) mg (n - mg), upd (mM M) i (nI (n - mg)), upd (mG M) i (mG M i + nI mg), uf1, rCp (mN M) (mNx M) (fun k => hf1 (16 * i + k)) mg, mX M, mL M, mP M) ∧
    MFr i M (mNx M + mg, rSh hf1 (16 * i) mg (n - mg), upd (mM M) i (nI (n - mg)), upd (mG M) i (mG M i + nI mg), uf1, rCp (mN M) (mNx M) (fun k => hf1 (16 * i + k)) mg, mX M, mL M, mP M) := by
  have hR' := hR
  obtain ⟨r1, r2, r3, r4, r5, r6, r7, r8, r9, r10, r11, r12, r13, r14⟩ := hR'
  exact ⟨give_rel hi hN hR hm hn h1 h2 h3 h4 r8 r9 (fun h => absurd h k1) (fun h => absurd h k2) (fun _ => r14 k2), give_fr hi hn f1 f4 (fun _ _ => rfl) (fun _ _ => rfl) (fun _ _ => rfl)⟩
/-- what a kind's work is owed: the model's new arrays u, and the class's next state -/
def KOk (kn : Nat) (en ds st : Int32) (gv0 N i n : Nat) (s : cRS) (M u : MS) : Prop :=
  (∃ n', (cNext kn en ds s).1 + n' = s.1 + n ∧ s.1 < (cNext kn en ds s).1 ∧ RRel kn st gv0 N i n' (cNext kn en ds s) u) ∧ MFr i M u
theorem KOk.of {kn : Nat} {en ds st : Int32} {gv0 N i n mg : Nat} {s : cRS} {M u : MS} {t : Int32 × Int32 × Int32 × (Nat → Int32) × (Nat → Int32)} (hm : mg ≤ n) (hm0 : 0 < mg) (he : cNext kn en ds s = (s.1 + mg, s.2.1 + nI mg, t)) (h : RRel kn st gv0 N i (n - mg) (s.1 + mg, s.2.1 + nI mg, t) u) (hf : MFr i M u) : KOk kn en ds st gv0 N i n s M u := by
  refine ⟨⟨n - mg, ?_, ?_, ?_⟩, hf⟩
  · rw [he]; show s.1 + mg + (n - mg) = _; omega
  · rw [he]; show s.1 < s.1 + mg; omega
  · rw [he]; exact h
theorem cMd_rMd (en x y : Int32) : cMd en x y = rMd en x y := rfl
theorem k_none {en ds st : Int32} {gv0 N i n : Nat} {s : cRS} {M : MS} (hi : i < 4) (hN : N ≤ 64) (hR : RRel 0 st gv0 N i n s M) (h1 : 1 ≤ n) (h2 : n ≤ 16) :
    KOk 0 en ds st gv0 N i n s M (mNx M + 1, rSh (mH M) (16 * i) 1 (n - 1), upd (mM M) i (nI (n - 1)), upd (mG M) i (mG M i + nI 1), mU M, rCp (mN M) (mNx M) (fun k => mH M (16 * i + k)) 1, mX M, mL M, mP M) := by
  have hR' := hR
  obtain ⟨r1, r2, r3, r4, r5, r6, r7, r8, r9, r10, r11, r12, r13, r14⟩ := hR'
  obtain ⟨a, b⟩ := kind_rel (mg := 1) (by decide) (by decide) hi hN hR h1 h2 r2 r3 (fun _ _ => rfl) r7 (fun _ _ => rfl) (fun _ _ => rfl)
  exact KOk.of h1 (by decide) rfl a b
