/-! a filter at rest, in the class and in the model -/
def FRel (fl st en : Int32) (F : FS) (i gv : Nat) (kf df : Nat → Int32) (M : MS) : Prop :=
  fKn F < 8 ∧ kf i = nI (fKn F) ∧ (∃ dn, 1 ≤ dn ∧ dn ≤ 32 ∧ fDs F = nI dn ∧ df i = nI dn) ∧ fN F < cNeed (fKn F) ∧ fEn F = en ∧
  mM M i = nI (fN F) ∧ (∀ j, j < fN F → mH M (16 * i + j) = fG F j) ∧ (∀ j, j < fN F → isB (fG F j)) ∧ fGv F = nI gv ∧ mG M i = nI gv ∧ mU M i = fRp F ∧ mX M i = fMk F ∧ (fKn F ≠ 2 → fMk F = 0) ∧
  (fl = 0 → mL M i = fLa F ∧ fPl F = st + mG M i ∧ (fKn F = 1 → ∀ d, 1 ≤ d → d ≤ 32 → mP M (32 * i + (d - 1)) = fPf F (b5 (fPl F - nI d))) ∧ (fKn F = 2 → XI (fMk F) (fPl F - fLa F) gv (fG F) 0 (fN F)))
theorem FRel.fr {fl st en : Int32} {F : FS} {i k gv : Nat} {kf df : Nat → Int32} {M U : MS} (h : FRel fl st en F i gv kf df M) (hi : i < 4) (hk : i ≠ k) (hf : MFr k M U) : FRel fl st en F i gv kf df U := by
  obtain ⟨a1, a2, a3, a4, a5, a6, a7, a8, a9, a10, a11, a12, a13, a14⟩ := h
  obtain ⟨f1, f2, f3, f4, f5, f6, f7⟩ := hf i hi hk
  have hN : fN F < 16 := by have := (cNeed_le (fKn F)).2; omega
  refine ⟨a1, a2, a3, a4, a5, f2.trans a6, fun j hj => (f1 j (by omega)).trans (a7 j hj), a8, a9, f3.trans a10, f4.trans a11, f5.trans a12, a13, fun q => ?_⟩
  obtain ⟨b1, b2, b3, b4⟩ := a14 q
  refine ⟨f6.trans b1, by rw [f3]; exact b2, fun q d d1 d2 => ?_, b4⟩
  rw [f7 (d - 1) (by omega)]; exact b3 q d d1 d2
/-- the state that a pass begins with -/
def fS0 (F : FS) (k : Nat) (f : Nat → Int32) : cRS := (0, fPl F, fRp F, fMk F, fLa F, va_cpy f (fG F) 0 (fN F) k, fPf F)
theorem fRun_eq (F : FS) (k : Nat) (f : Nat → Int32) : fRun F k f = cRun (fKn F) (fEn F) (fDs F) (fN F + k) 64 (fS0 F k f) := rfl
theorem FRel.run {st en : Int32} {F : FS} {i gv k : Nat} {kf df f : Nat → Int32} {M : MS} (h : FRel 0 st en F i gv kf df M) (hb : ∀ j, j < k → isB (f j)) :
    RRel (fKn F) st gv (fN F + k) i (fN F) (fS0 F k f) (0, M.2) := by
  obtain ⟨a1, a2, a3, a4, a5, a6, a7, a8, a9, a10, a11, a12, a13, a14⟩ := h
  obtain ⟨b1, b2, b3, b4⟩ := a14 rfl
  have g1 : ∀ j, j < fN F → va_cpy f (fG F) 0 (fN F) k j = fG F j := fun j hj => pk_cpy_out (Or.inl hj)
  refine ⟨a6, fun j hj => ?_, fun j hj => ?_, ?_, ?_, b2, a11, a12, b1, b3, rfl, fun j hj => absurd hj (Nat.not_lt_zero j), fun q => ?_, a13⟩
  · show mH M (16 * i + j) = va_cpy f (fG F) 0 (fN F) k (0 + j)
    rw [Nat.zero_add, g1 j hj, a7 j hj]
  · show isB (va_cpy f (fG F) 0 (fN F) k j)
    rcases Nat.lt_or_ge j (fN F) with q | q
    · rw [g1 j q]; exact a8 j q
    · rw [pk_cpy_in q hj]; exact hb _ (by omega)
  · show 0 + fN F ≤ fN F + k; omega
  · show mG M i = nI (gv + 0); exact a10
  · obtain ⟨dd, mkn, e1, d1, d2, e2, d3, d4⟩ := b4 q
    refine ⟨dd, mkn, e1, d1, d2, e2, d3, fun b hb b1 b2 b3 => ?_⟩
    obtain ⟨c1, c2⟩ := d4 b hb b1 b2 b3
    refine ⟨c1, ?_⟩
    show cSg (va_cpy f (fG F) 0 (fN F) k (0 + (4 - dd - b))) = 0
    rw [Nat.zero_add, g1 _ c1]
    rw [Nat.zero_add] at c2
    exact c2
/-- on the way through a pass: tt bytes have come into the model's filter -/
def AI (F : FS) (st : Int32) (gv k : Nat) (f : Nat → Int32) (i : Nat) (M0 : MS) (tt n : Nat) (sR : cRS) (M : MS) : Prop :=
  RRel (fKn F) st gv (fN F + k) i n sR M ∧ sR.1 + n = tt ∧ MFr i M0 M ∧ (∃ Kr, cRun (fKn F) (fEn F) (fDs F) (fN F + k) 64 (fS0 F k f) = cRun (fKn F) (fEn F) (fDs F) (fN F + k) Kr sR ∧ 64 ≤ Kr + sR.1) ∧ ∀ j, tt ≤ j → sR.2.2.2.2.2.1 j = (fS0 F k f).2.2.2.2.2.1 j
theorem AI.start {st en : Int32} {F : FS} {i gv k : Nat} {kf df f : Nat → Int32} {M : MS} (h : FRel 0 st en F i gv kf df M) (hb : ∀ j, j < k → isB (f j)) : AI F st gv k f i M (fN F) (fN F) (fS0 F k f) (0, M.2) :=
  ⟨h.run hb, Nat.zero_add _, fun _ _ _ => ⟨fun _ _ => rfl, rfl, rfl, rfl, rfl, rfl, fun _ _ => rfl⟩, ⟨64, rfl, Nat.le_refl _⟩, fun _ _ => rfl⟩
theorem AI.work {F : FS} {st : Int32} {gv k i tt n : Nat} {f : Nat → Int32} {M0 M u : MS} {sR : cRS} (hkn : fKn F < 8) (hN : fN F + k ≤ 64) (h : AI F st gv k f i M0 tt n sR M) (hn : cNeed (fKn F) ≤ n) (hu : KOk (fKn F) (fEn F) (fDs F) st gv (fN F + k) i n sR M u) :
    ∃ n1 s1, n1 < n ∧ AI F st gv k f i M0 tt n1 s1 u := by
  obtain ⟨h1, h2, h3, ⟨Kr, h4, h5⟩, h6⟩ := h
  obtain ⟨⟨n1, q1, q2, q3⟩, q4⟩ := hu
  have hb : sR.1 + n ≤ fN F + k := h1.2.2.2.1
  have hnd := cNeed_le (fKn F)
  refine ⟨n1, _, by omega, q3, by omega, h3.trans q4, ?_, fun j hj => ?_⟩
  · rcases Kr with _ | Kr
    · omega
    · refine ⟨Kr, h4.trans ?_, by omega⟩
      exact if_pos (by omega)
  · rw [cNext_out hkn (by omega)]; exact h6 j hj
theorem AI.add {F : FS} {st x : Int32} {gv k i tt n : Nat} {f : Nat → Int32} {M0 M : MS} {sR : cRS} (hi : i < 4) (hn : n < 16) (hk : n < fN F + k - sR.1) (h : AI F st gv k f i M0 tt n sR M) (hx : x = va_cpy f (fG F) 0 (fN F) k tt) :
    AI F st gv k f i M0 (tt + 1) (n + 1) sR (mNx M, upd (mH M) (16 * i + n) (x &&& 255), upd (mM M) i (nI (n + 1)), mG M, mU M, mN M, mX M, mL M, mP M) := by
  obtain ⟨h1, h2, h3, h4, h6⟩ := h
  obtain ⟨r1, r2, r3, r4, r5, r6, r7, r8, r9, r10, r11, r12, r13, r14⟩ := h1
  have eg : sR.2.2.2.2.2.1 tt = x := by rw [h6 tt (Nat.le_refl _), hx]; rfl
  have bx : isB x := by rw [← eg]; exact r3 tt (by omega)
  refine ⟨⟨pk_us, fun j hj => ?_, r3, by omega, r5, r6, r7, r8, r9, r10, r11, r12, fun q => ?_, r14⟩, by omega, h3.trans ?_, h4, fun j hj => h6 j (by omega)⟩
  · show upd (mH M) (16 * i + n) (x &&& 255) (16 * i + j) = _
    rcases Nat.lt_or_ge j n with q | q
    · rw [pk_un (by omega)]; exact r2 j q
    · have e : j = n := by omega
      subst e
      rw [pk_us, h2, eg]; exact bx
  · obtain ⟨dd, mkn, e1, d1, d2, e2, d3, d4⟩ := r13 q
    refine ⟨dd, mkn, e1, d1, d2, e2, d3, fun b hb b1 b2 b3 => ?_⟩
    obtain ⟨c1, c2⟩ := d4 b hb b1 b2 b3
    exact ⟨by omega, c2⟩
  · intro q hq hqi
    refine ⟨fun j hj => pk_un (by omega), pk_un hqi, rfl, rfl, rfl, rfl, fun _ _ => rfl⟩
/-- the pass is over -/
theorem AI.fin {F : FS} {st en : Int32} {gv k i n : Nat} {kf df f : Nat → Int32} {M0 M : MS} {sR : cRS} (h0 : FRel 0 st en F i gv kf df M0) (h : AI F st gv k f i M0 (fN F + k) n sR M) (hn : n < cNeed (fKn F)) :
    fRun F k f = sR ∧ FRel 0 st en (fPass F k f) i (gv + sR.1) kf df M ∧ n = fN (fPass F k f) := by
  obtain ⟨h1, h2, h3, ⟨Kr, h4, h5⟩, h6⟩ := h
  obtain ⟨r1, r2, r3, r4, r5, r6, r7, r8, r9, r10, r11, r12, r13, r14⟩ := h1
  obtain ⟨a1, a2, a3, a4, a5, a6, a7, a8, a9, a10, a11, a12, a13, a14⟩ := h0
  have eR : fRun F k f = sR := by
    rw [fRun_eq, h4]
    obtain ⟨hh, t⟩ := sR
    have h2 : hh + n = fN F + k := h2
    exact cRun_out (by omega)
  have eN : n = fN F + k - sR.1 := by omega
  have eg : ∀ j, j < n → va_cpy sR.2.2.2.2.2.1 sR.2.2.2.2.2.1 sR.1 0 (fN F + k - sR.1) j = sR.2.2.2.2.2.1 (sR.1 + j) := fun j hj => by rw [pk_cpy_in (Nat.zero_le _) (by omega)]; rfl
  refine ⟨eR, ?_, ?_⟩
  · unfold fPass
    rw [eR]
    refine ⟨a1, a2, a3, ?_, a5, ?_, fun j hj => ?_, fun j hj => ?_, ?_, r5, r7, r8, r14, fun _ => ⟨r9, r6, r10, fun q => ?_⟩⟩
    · show fN F + k - sR.1 < _; rw [← eN]; exact hn
    · show mM M i = nI (fN F + k - sR.1); rw [← eN]; exact r1
    · have hj : j < fN F + k - sR.1 := hj
      show mH M (16 * i + j) = va_cpy sR.2.2.2.2.2.1 sR.2.2.2.2.2.1 sR.1 0 (fN F + k - sR.1) j
      rw [eg j (by omega)]; exact r2 j (by omega)
    · have hj : j < fN F + k - sR.1 := hj
      show isB (va_cpy sR.2.2.2.2.2.1 sR.2.2.2.2.2.1 sR.1 0 (fN F + k - sR.1) j)
      rw [eg j (by omega)]; exact r3 _ (by omega)
    · show fGv F + nI sR.1 = nI (gv + sR.1)
      rw [a9, nI_add]
    · obtain ⟨dd, mkn, e1, d1, d2, e2, d3, d4⟩ := r13 q
      refine ⟨dd, mkn, e1, d1, d2, e2, d3, fun b hb b1 b2 b3 => ?_⟩
      obtain ⟨c1, c2⟩ := d4 b hb b1 b2 b3
      refine ⟨by show _ < fN F + k - sR.1; omega, ?_⟩
      show cSg (va_cpy sR.2.2.2.2.2.1 sR.2.2.2.2.2.1 sR.1 0 (fN F + k - sR.1) (0 + (4 - dd - b))) = 0
      rw [Nat.zero_add, eg _ c1]; exact c2
  · unfold fPass; rw [eR]; exact eN
/-- a stage is over: what the model's filter gave is what the class's gave -/
def SOk (t : FS → Nat → (Nat → Int32) → FS × Nat × (Nat → Int32)) (fl st en : Int32) (F : FS) (i gv k : Nat) (f kf df : Nat → Int32) (M0 M : MS) : Prop :=
  FRel fl st en (t F k f).1 i (gv + (t F k f).2.1) kf df M ∧ mNx M = (t F k f).2.1 ∧ (∀ j, j < (t F k f).2.1 → mN M j = (t F k f).2.2 j ∧ isB ((t F k f).2.2 j)) ∧ MFr i M0 M ∧ (t F k f).2.1 + fN (t F k f).1 = fN F + k
theorem AI.st0 {F : FS} {st en : Int32} {gv k i n : Nat} {kf df f : Nat → Int32} {M0 M : MS} {sR : cRS} (h0 : FRel 0 st en F i gv kf df M0) (h : AI F st gv k f i M0 (fN F + k) n sR M) (hn : n < cNeed (fKn F)) : SOk s0 0 st en F i gv k f kf df M0 M := by
  obtain ⟨eR, hF, eN⟩ := h.fin h0 hn
  obtain ⟨h1, h2, h3, h4, h6⟩ := h
  obtain ⟨r1, r2, r3, r4, r5, r6, r7, r8, r9, r10, r11, r12, r13, r14⟩ := h1
  have e1 : (s0 F k f).2.1 = sR.1 := by show k - k + (fRun F k f).1 = sR.1; rw [eR]; omega
  have e2 : ∀ j, j < sR.1 → (s0 F k f).2.2 j = sR.2.2.2.2.2.1 j := fun j hj => by
    show va_cpy (fRun F k f).2.2.2.2.2.1 (va_cpy f f k 0 (k - k)) 0 (k - k) (fRun F k f).1 j = _
    rw [eR, pk_cpy_in (by omega) (by omega)]; exact congrArg sR.2.2.2.2.2.1 (by omega)
  refine ⟨by rw [e1]; exact hF, by rw [e1]; exact r11, fun j hj => ?_, h3, ?_⟩
  · rw [e1] at hj
    rw [e2 j hj]; exact ⟨r12 j hj, r3 j (by omega)⟩
  · rw [e1]; show sR.1 + fN (fPass F k f) = _; rw [← eN]; exact h2
theorem AI.st1 {F : FS} {st en : Int32} {gv k i n : Nat} {kf df f : Nat → Int32} {M0 M : MS} {sR : cRS} (hi : i < 4) (h0 : FRel 0 st en F i gv kf df M0) (h : AI F st gv k f i M0 (fN F + k) n sR M) (hn : n < cNeed (fKn F)) :
    SOk s1 1 st en F i gv k f kf df M0 (mNx M + n, rSh (mH M) (16 * i) n (n - n), upd (mM M) i (nI (n - n)), upd (mG M) i (mG M i + nI n), mU M, rCp (mN M) (mNx M) (fun k => mH M (16 * i + k)) n, mX M, mL M, mP M) := by
  obtain ⟨eR, hF, eN⟩ := h.fin h0 hn
  obtain ⟨h1, h2, h3, h4, h6⟩ := h
  obtain ⟨r1, r2, r3, r4, r5, r6, r7, r8, r9, r10, r11, r12, r13, r14⟩ := h1
  obtain ⟨a1, a2, a3, a4, a5, a6, a7, a8, a9, a10, a11, a12, a13, a14⟩ := hF
  have hn16 : n ≤ 16 := by have := (cNeed_le (fKn F)).2; omega
  have e0 : fOutN F k f = sR.1 := by show k - k + (fRun F k f).1 = sR.1; rw [eR]; omega
  have e1 : (s1 F k f).2.1 = sR.1 + n := by show fOutN F k f + fN (fPass F k f) = _; rw [e0, ← eN]
  have e2 : ∀ j, j < sR.1 + n → (s1 F k f).2.2 j = sR.2.2.2.2.2.1 j := fun j hj => by
    show va_cpy (fG (fPass F k f)) (fOutF F k f) 0 (fOutN F k f) (fN (fPass F k f)) j = _
    rw [e0, ← eN]
    rcases Nat.lt_or_ge j sR.1 with q | q
    · rw [pk_cpy_out (Or.inl q)]
      show va_cpy (fRun F k f).2.2.2.2.2.1 (va_cpy f f k 0 (k - k)) 0 (k - k) (fRun F k f).1 j = _
      rw [eR, pk_cpy_in (by omega) (by omega)]; exact congrArg sR.2.2.2.2.2.1 (by omega)
    · rw [pk_cpy_in q (by omega)]
      show va_cpy (fRun F k f).2.2.2.2.2.1 (fRun F k f).2.2.2.2.2.1 (fRun F k f).1 0 (fN F + k - (fRun F k f).1) (0 + (j - sR.1)) = _
      rw [eR, pk_cpy_in (by omega) (by omega)]; exact congrArg sR.2.2.2.2.2.1 (by omega)
  refine ⟨?_, ?_, fun j hj => ?_, h3.trans (give_fr hi hn16 (fun _ _ => rfl) (fun _ _ => rfl) (fun _ _ => rfl) (fun _ _ => rfl) (fun _ _ => rfl)), ?_⟩
  · rw [e1]
    have hz : fN (fPass F k f) - fN (fPass F k f) = 0 := Nat.sub_self _
    have hp := (cNeed_le (fKn F)).1
    refine ⟨a1, a2, a3, ?_, a5, ?_, fun j hj => ?_, fun j hj => ?_, ?_, ?_, a11, a12, a13, fun q => absurd q (by decide)⟩
    · show fN (fPass F k f) - fN (fPass F k f) < _; rw [hz]; exact hp
    · show upd (mM M) i (nI (n - n)) i = nI (fN (fPass F k f) - fN (fPass F k f)); rw [pk_us, ← eN]
    · have hj : j < fN (fPass F k f) - fN (fPass F k f) := hj
      omega
    · have hj : j < fN (fPass F k f) - fN (fPass F k f) := hj
      omega
    · show fGv (fPass F k f) + nI (fN (fPass F k f)) = nI (gv + (sR.1 + n))
      rw [a9, ← eN, nI_add, Nat.add_assoc]
    · show upd (mG M) i (mG M i + nI n) i = nI (gv + (sR.1 + n))
      rw [pk_us, r5, nI_add, Nat.add_assoc]
  · rw [e1]; show mNx M + n = _; rw [r11]
  · rw [e1] at hj
    rw [e2 j hj]
    refine ⟨?_, r3 j (by omega)⟩
    show rCp (mN M) (mNx M) (fun k => mH M (16 * i + k)) n j = _
    rw [r11]
    rcases Nat.lt_or_ge j sR.1 with q | q
    · rw [rCp_out _ _ (by omega)]; exact r12 j q
    · have e : j = sR.1 + (j - sR.1) := by omega
      rw [e, rCp_in _ _ (by omega)]; exact r2 _ (by omega)
  · rw [e1]
    show sR.1 + n + (fN (fPass F k f) - fN (fPass F k f)) = _
    omega
/-- the order of the filters -/
def ixE (en : Int32) (s : Nat) : Nat := if en = 0 then 3 - s else s
theorem ixE_lt {en : Int32} {s : Nat} (h : s < 4) : ixE en s < 4 := by unfold ixE; split <;> omega
theorem ixE_ix {en : Int32} {s : Nat} (h : s < 4) : ixE en (ixE en s) = s := by unfold ixE; split <;> omega
theorem ixE_inj {en : Int32} {a b : Nat} (ha : a < 4) (hb : b < 4) (h : ixE en a = ixE en b) : a = b := by rw [← ixE_ix (en := en) ha, h, ixE_ix hb]
def stg (t : FS → Nat → (Nat → Int32) → FS × Nat × (Nat → Int32)) (en : Int32) (FF : Nat → FS) (k : Nat) (f : Nat → Int32) : Nat → (Nat → FS) × Nat × (Nat → Int32)
  | 0 => (FF, k, f)
  | s + 1 => (fun j => if j = ixE en s then (t ((stg t en FF k f s).1 (ixE en s)) (stg t en FF k f s).2.1 (stg t en FF k f s).2.2).1 else (stg t en FF k f s).1 j, (t ((stg t en FF k f s).1 (ixE en s)) (stg t en FF k f s).2.1 (stg t en FF k f s).2.2).2)
def tE (x : Int32) : FS → Nat → (Nat → Int32) → FS × Nat × (Nat → Int32) := if x = 0 then s0 else s1
/-- before the filter of the order's place s works -/
def GI (x st en : Int32) (FF : Nat → FS) (G : Nat → Nat) (k : Nat) (f kf df : Nat → Int32) (s : Nat) (M : MS) (inf : Nat → Int32) : Prop :=
  (∀ i, i < 4 → FRel (if ixE en i < s then x else 0) st en ((stg (tE x) en FF k f s).1 i) i (G i + if ixE en i < s then (stg (tE x) en FF k f (ixE en i + 1)).2.1 else 0) kf df M) ∧
  (∀ j, j < (stg (tE x) en FF k f s).2.1 → inf j = (stg (tE x) en FF k f s).2.2 j ∧ isB ((stg (tE x) en FF k f s).2.2 j)) ∧ (stg (tE x) en FF k f s).2.1 ≤ 16 + 7 * s
theorem GI.next {x st en : Int32} {FF : Nat → FS} {G : Nat → Nat} {k : Nat} {f kf df : Nat → Int32} {s : Nat} {M M3 : MS} {inf i1 : Nat → Int32} (hs : s < 4) (h : GI x st en FF G k f kf df s M inf)
    (h3 : SOk (tE x) x st en ((stg (tE x) en FF k f s).1 (ixE en s)) (ixE en s) (G (ixE en s)) (stg (tE x) en FF k f s).2.1 (stg (tE x) en FF k f s).2.2 kf df M M3) (hq : ∀ q, q < mNx M3 → i1 q = mN M3 q) : GI x st en FF G k f kf df (s + 1) M3 i1 := by
  obtain ⟨h1, h2, hk⟩ := h
  obtain ⟨q1, q2, q3, q4, q5⟩ := h3
  have hn := (h1 (ixE en s) (ixE_lt hs)).2.2.2.1
  have hn8 := (cNeed_le (fKn ((stg (tE x) en FF k f s).1 (ixE en s)))).2
  refine ⟨fun i hi => ?_, fun j hj => ?_, ?_⟩
  · by_cases e : i = ixE en s
    · subst e
      rw [ixE_ix hs, if_pos (Nat.lt_succ_self s), if_pos (Nat.lt_succ_self s)]
      show FRel _ st en (if ixE en s = ixE en s then _ else _) _ _ kf df M3
      rw [if_pos rfl]
      exact q1
    · have hne : ixE en i ≠ s := fun q => e (by rw [← q, ixE_ix hi])
      have hh := (h1 i hi).fr hi e q4
      show FRel _ st en (if i = ixE en s then _ else (stg (tE x) en FF k f s).1 i) _ _ kf df M3
      rw [if_neg e]
      by_cases hl : ixE en i < s
      · rw [if_pos (show ixE en i < s + 1 by omega), if_pos (show ixE en i < s + 1 by omega)]
        rw [if_pos hl, if_pos hl] at hh
        exact hh
      · rw [if_neg (show ¬ ixE en i < s + 1 by omega), if_neg (show ¬ ixE en i < s + 1 by omega)]
        rw [if_neg hl, if_neg hl] at hh
        exact hh
  · have hj : j < (tE x ((stg (tE x) en FF k f s).1 (ixE en s)) (stg (tE x) en FF k f s).2.1 (stg (tE x) en FF k f s).2.2).2.1 := hj
    obtain ⟨w1, w2⟩ := q3 j hj
    exact ⟨(hq j (by rw [q2]; exact hj)).trans w1, w2⟩
  · show (tE x ((stg (tE x) en FF k f s).1 (ixE en s)) (stg (tE x) en FF k f s).2.1 (stg (tE x) en FF k f s).2.2).2.1 ≤ _
    omega
theorem rNeed_n : ∀ k, k < 8 → rNeed (nI k) = nI (cNeed k) := by decide +kernel
theorem GI.at {x st en : Int32} {FF : Nat → FS} {G : Nat → Nat} {k : Nat} {f kf df : Nat → Int32} {s : Nat} {M : MS} {inf : Nat → Int32} (hs : s < 4) (h : GI x st en FF G k f kf df s M inf) : FRel 0 st en ((stg (tE x) en FF k f s).1 (ixE en s)) (ixE en s) (G (ixE en s)) kf df M := by
  have q := h.1 (ixE en s) (ixE_lt hs)
  rw [ixE_ix hs, if_neg (Nat.lt_irrefl s), if_neg (Nat.lt_irrefl s)] at q
  exact q
theorem up_pre {f g : Nat → Int32} {j : Nat} {v : Int32} (h : ∀ q, q < j → f q = g q) (hv : v = g j) : ∀ q, q < j + 1 → upd f j v q = g q := by
  intro q hq
  rcases Nat.lt_or_ge q j with h9 | h9
  · rw [pk_un (by omega)]; exact h q h9
  · have e : q = j := by omega
    subst e
    rw [pk_us]; exact hv
theorem GI.zero {x st en : Int32} {FF : Nat → FS} {G : Nat → Nat} {k : Nat} {f kf df : Nat → Int32} {M : MS} {inf : Nat → Int32} (hF : ∀ i, i < 4 → FRel 0 st en (FF i) i (G i) kf df M) (hin : ∀ j, j < k → inf j = f j ∧ isB (f j)) (hk : k ≤ 16) : GI x st en FF G k f kf df 0 M inf :=
  ⟨fun i hi => by rw [if_neg (Nat.not_lt_zero _), if_neg (Nat.not_lt_zero _)]; exact hF i hi, hin, hk⟩
