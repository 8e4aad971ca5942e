/-! class and model between two calls of the law -/
def f4 (F0 F1 F2 F3 : FS) (i : Nat) : FS :=
  match i with
  | 0 => F0
  | 1 => F1
  | 2 => F2
  | _ => F3
/-- how many bytes came into each filter, and out of it -/
def ACC (en : Int32) (G : Nat → Nat) (FF : Nat → FS) (cm rn : Nat) : Prop :=
  G (ixE en 0) + fN (FF (ixE en 0)) = cm ∧ G (ixE en 1) + fN (FF (ixE en 1)) = G (ixE en 0) ∧ G (ixE en 2) + fN (FF (ixE en 2)) = G (ixE en 1) ∧ G (ixE en 3) + fN (FF (ixE en 3)) = G (ixE en 2) ∧ G (ixE en 3) = rn
theorem tE_0 : tE 0 = s0 := if_pos rfl
theorem tE_1 : tE 1 = s1 := if_neg (by decide)
theorem tE_sum (x : Int32) (F : FS) (k : Nat) (f : Nat → Int32) : (tE x F k f).2.1 + fN (tE x F k f).1 = fN F + k := by
  have hr := fRun_le F k f
  by_cases h : x = 0
  · rw [show tE x = s0 from if_pos h]
    show k - k + (fRun F k f).1 + (fN F + k - (fRun F k f).1) = _
    omega
  · rw [show tE x = s1 from if_neg h]
    show k - k + (fRun F k f).1 + (fN F + k - (fRun F k f).1) + ((fN F + k - (fRun F k f).1) - (fN F + k - (fRun F k f).1)) = _
    omega
theorem stg_keep (t : FS → Nat → (Nat → Int32) → FS × Nat × (Nat → Int32)) (en : Int32) (FF : Nat → FS) (k : Nat) (f : Nat → Int32) {q : Nat} (hq : q < 4) : ∀ s, s ≤ q → (stg t en FF k f s).1 (ixE en q) = FF (ixE en q)
  | 0, _ => rfl
  | s + 1, h => by
    show (if ixE en q = ixE en s then _ else (stg t en FF k f s).1 (ixE en q)) = _
    rw [if_neg (fun e => by have := ixE_inj hq (by omega) e; omega)]
    exact stg_keep t en FF k f hq s (by omega)
theorem stg_next (t : FS → Nat → (Nat → Int32) → FS × Nat × (Nat → Int32)) (en : Int32) (FF : Nat → FS) (k : Nat) (f : Nat → Int32) {q : Nat} (hq : q < 4) : (stg t en FF k f (q + 1)).2 = (t (FF (ixE en q)) (stg t en FF k f q).2.1 (stg t en FF k f q).2.2).2 := by
  show (t ((stg t en FF k f q).1 (ixE en q)) (stg t en FF k f q).2.1 (stg t en FF k f q).2.2).2 = _
  rw [stg_keep t en FF k f hq q (Nat.le_refl q)]
theorem stg_done (t : FS → Nat → (Nat → Int32) → FS × Nat × (Nat → Int32)) (en : Int32) (FF : Nat → FS) (k : Nat) (f : Nat → Int32) {q : Nat} (hq : q < 4) : ∀ s, q < s → s ≤ 4 → (stg t en FF k f s).1 (ixE en q) = (t (FF (ixE en q)) (stg t en FF k f q).2.1 (stg t en FF k f q).2.2).1
  | 0, h, _ => absurd h (Nat.not_lt_zero q)
  | s + 1, h, h4 => by
    show (if ixE en q = ixE en s then (t ((stg t en FF k f s).1 (ixE en s)) (stg t en FF k f s).2.1 (stg t en FF k f s).2.2).1 else (stg t en FF k f s).1 (ixE en q)) = _
    by_cases e : q = s
    · subst e
      rw [if_pos rfl, stg_keep t en FF k f hq q (Nat.le_refl q)]
    · rw [if_neg (fun w => e (ixE_inj hq (by omega) w))]
      exact stg_done t en FF k f hq s (by omega) (by omega)
theorem stg_sum (x en : Int32) (FF : Nat → FS) (k : Nat) (f : Nat → Int32) {q : Nat} (hq : q < 4) : (stg (tE x) en FF k f (q + 1)).2.1 + fN ((stg (tE x) en FF k f 4).1 (ixE en q)) = fN (FF (ixE en q)) + (stg (tE x) en FF k f q).2.1 := by
  rw [stg_next (tE x) en FF k f hq, stg_done (tE x) en FF k f hq 4 hq (Nat.le_refl 4)]
  exact tE_sum x _ _ _
theorem ACC.next {x en : Int32} {G : Nat → Nat} {FF : Nat → FS} {cm rn k : Nat} {f : Nat → Int32} (h : ACC en G FF cm rn) : ACC en (fun i => G i + (stg (tE x) en FF k f (ixE en i + 1)).2.1) (stg (tE x) en FF k f 4).1 (cm + k) (rn + (stg (tE x) en FF k f 4).2.1) := by
  obtain ⟨h0, h1, h2, h3, h4⟩ := h
  have q0 : (stg (tE x) en FF k f 1).2.1 + fN ((stg (tE x) en FF k f 4).1 (ixE en 0)) = fN (FF (ixE en 0)) + (stg (tE x) en FF k f 0).2.1 := stg_sum x en FF k f (q := 0) (by decide)
  have e0 : (stg (tE x) en FF k f (ixE en (ixE en 0) + 1)).2.1 = (stg (tE x) en FF k f 1).2.1 := by rw [ixE_ix (by decide)]
  have q1 : (stg (tE x) en FF k f 2).2.1 + fN ((stg (tE x) en FF k f 4).1 (ixE en 1)) = fN (FF (ixE en 1)) + (stg (tE x) en FF k f 1).2.1 := stg_sum x en FF k f (q := 1) (by decide)
  have e1 : (stg (tE x) en FF k f (ixE en (ixE en 1) + 1)).2.1 = (stg (tE x) en FF k f 2).2.1 := by rw [ixE_ix (by decide)]
  have q2 : (stg (tE x) en FF k f 3).2.1 + fN ((stg (tE x) en FF k f 4).1 (ixE en 2)) = fN (FF (ixE en 2)) + (stg (tE x) en FF k f 2).2.1 := stg_sum x en FF k f (q := 2) (by decide)
  have e2 : (stg (tE x) en FF k f (ixE en (ixE en 2) + 1)).2.1 = (stg (tE x) en FF k f 3).2.1 := by rw [ixE_ix (by decide)]
  have q3 : (stg (tE x) en FF k f 4).2.1 + fN ((stg (tE x) en FF k f 4).1 (ixE en 3)) = fN (FF (ixE en 3)) + (stg (tE x) en FF k f 3).2.1 := stg_sum x en FF k f (q := 3) (by decide)
  have e3 : (stg (tE x) en FF k f (ixE en (ixE en 3) + 1)).2.1 = (stg (tE x) en FF k f 4).2.1 := by rw [ixE_ix (by decide)]
  have z0 : (stg (tE x) en FF k f 0).2.1 = k := rfl
  refine ⟨?_, ?_, ?_, ?_, ?_⟩
  · show G (ixE en 0) + (stg (tE x) en FF k f (ixE en (ixE en 0) + 1)).2.1 + _ = _
    rw [e0]; omega
  · show G (ixE en 1) + (stg (tE x) en FF k f (ixE en (ixE en 1) + 1)).2.1 + _ = G (ixE en 0) + (stg (tE x) en FF k f (ixE en (ixE en 0) + 1)).2.1
    rw [e1, e0]; omega
  · show G (ixE en 2) + (stg (tE x) en FF k f (ixE en (ixE en 2) + 1)).2.1 + _ = G (ixE en 1) + (stg (tE x) en FF k f (ixE en (ixE en 1) + 1)).2.1
    rw [e2, e1]; omega
  · show G (ixE en 3) + (stg (tE x) en FF k f (ixE en (ixE en 3) + 1)).2.1 + _ = G (ixE en 2) + (stg (tE x) en FF k f (ixE en (ixE en 2) + 1)).2.1
    rw [e3, e2]; omega
  · show G (ixE en 3) + (stg (tE x) en FF k f (ixE en (ixE en 3) + 1)).2.1 = _
    rw [e3, h4]
theorem ACC.le {en : Int32} {G : Nat → Nat} {FF : Nat → FS} {cm rn : Nat} (h : ACC en G FF cm rn) : (∀ i, i < 4 → G i ≤ cm) ∧ rn ≤ cm := by
  obtain ⟨h0, h1, h2, h3, h4⟩ := h
  refine ⟨fun i hi => ?_, by omega⟩
  have e : i = ixE en (ixE en i) := (ixE_ix hi).symm
  have hl := ixE_lt (en := en) hi
  rw [e]
  rcases (show ixE en i = 0 ∨ ixE en i = 1 ∨ ixE en i = 2 ∨ ixE en i = 3 by omega) with w | w | w | w <;> rw [w] <;> omega
theorem stg_sd4 (t : FS → Nat → (Nat → Int32) → FS × Nat × (Nat → Int32)) (en : Int32) (FF : Nat → FS) (k : Nat) (f : Nat → Int32) :
    (stg t en FF k f 4).2 = (sd4 t (FF (ixE en 0)) (FF (ixE en 1)) (FF (ixE en 2)) (FF (ixE en 3)) k f).2 ∧ (stg t en FF k f 4).1 (ixE en 0) = (sd4 t (FF (ixE en 0)) (FF (ixE en 1)) (FF (ixE en 2)) (FF (ixE en 3)) k f).1.1 ∧ (stg t en FF k f 4).1 (ixE en 1) = (sd4 t (FF (ixE en 0)) (FF (ixE en 1)) (FF (ixE en 2)) (FF (ixE en 3)) k f).1.2.1 ∧ (stg t en FF k f 4).1 (ixE en 2) = (sd4 t (FF (ixE en 0)) (FF (ixE en 1)) (FF (ixE en 2)) (FF (ixE en 3)) k f).1.2.2.1 ∧ (stg t en FF k f 4).1 (ixE en 3) = (sd4 t (FF (ixE en 0)) (FF (ixE en 1)) (FF (ixE en 2)) (FF (ixE en 3)) k f).1.2.2.2 := by
  have h1 := stg_next t en FF k f (q := 0) (by decide)
  have h2 := stg_next t en FF k f (q := 1) (by decide)
  have h3 := stg_next t en FF k f (q := 2) (by decide)
  have h4 := stg_next t en FF k f (q := 3) (by decide)
  have d0 := stg_done t en FF k f (q := 0) (by decide) 4 (by decide) (by decide)
  have d1 := stg_done t en FF k f (q := 1) (by decide) 4 (by decide) (by decide)
  have d2 := stg_done t en FF k f (q := 2) (by decide) 4 (by decide) (by decide)
  have d3 := stg_done t en FF k f (q := 3) (by decide) 4 (by decide) (by decide)
  have z0 : (stg t en FF k f 0).2 = (k, f) := rfl
  refine ⟨?_, ?_, ?_, ?_, ?_⟩
  · rw [h4, h3, h2, h1, z0]; rfl
  · rw [d0, z0]; rfl
  · rw [d1, h1, z0]; rfl
  · rw [d2, h2, h1, z0]; rfl
  · rw [d3, h3, h2, h1, z0]; rfl
theorem stg_sd (t : FS → Nat → (Nat → Int32) → FS × Nat × (Nat → Int32)) (en : Int32) (F0 F1 F2 F3 : FS) (k : Nat) (f : Nat → Int32) :
    (stg t en (f4 F0 F1 F2 F3) k f 4).2 = (sd t en F0 F1 F2 F3 k f).2 ∧ ∀ i, i < 4 → (stg t en (f4 F0 F1 F2 F3) k f 4).1 i = f4 (sd t en F0 F1 F2 F3 k f).1.1 (sd t en F0 F1 F2 F3 k f).1.2.1 (sd t en F0 F1 F2 F3 k f).1.2.2.1 (sd t en F0 F1 F2 F3 k f).1.2.2.2 i := by
  obtain ⟨a, b0, b1, b2, b3⟩ := stg_sd4 t en (f4 F0 F1 F2 F3) k f
  by_cases h : en = 0
  · have e0 : ixE en 0 = 3 := if_pos h
    have e1 : ixE en 1 = 2 := if_pos h
    have e2 : ixE en 2 = 1 := if_pos h
    have e3 : ixE en 3 = 0 := if_pos h
    rw [e0, e1, e2, e3] at a b0 b1 b2 b3
    have es : sd t en F0 F1 F2 F3 k f = (((sd4 t F3 F2 F1 F0 k f).1.2.2.2, (sd4 t F3 F2 F1 F0 k f).1.2.2.1, (sd4 t F3 F2 F1 F0 k f).1.2.1, (sd4 t F3 F2 F1 F0 k f).1.1), (sd4 t F3 F2 F1 F0 k f).2) := if_pos h
    rw [es]
    refine ⟨a, fun i hi => ?_⟩
    rcases (show i = 0 ∨ i = 1 ∨ i = 2 ∨ i = 3 by omega) with rfl | rfl | rfl | rfl
    · exact b3
    · exact b2
    · exact b1
    · exact b0
  · have e0 : ixE en 0 = 0 := if_neg h
    have e1 : ixE en 1 = 1 := if_neg h
    have e2 : ixE en 2 = 2 := if_neg h
    have e3 : ixE en 3 = 3 := if_neg h
    rw [e0, e1, e2, e3] at a b0 b1 b2 b3
    have es : sd t en F0 F1 F2 F3 k f = sd4 t F0 F1 F2 F3 k f := if_neg h
    rw [es]
    refine ⟨a, fun i hi => ?_⟩
    rcases (show i = 0 ∨ i = 1 ∨ i = 2 ∨ i = 3 by omega) with rfl | rfl | rfl | rfl
    · exact b0
    · exact b1
    · exact b2
    · exact b3
/-- what holds between two calls -/
def LI (st en fi : Int32) (cm rn : Nat) (F0 F1 F2 F3 : FS) (M : MS) (rf of kf df : Nat → Int32) : Prop :=
  (en = 0 ∨ en = 1) ∧ (fi = 0 ∨ fi = 1) ∧ cm ≤ 2000 ∧ (∀ j, j < rn → of j = rf j) ∧ ∃ G : Nat → Nat, (∀ i, i < 4 → FRel fi st en (f4 F0 F1 F2 F3 i) i (G i) kf df M) ∧ ACC en G (f4 F0 F1 F2 F3) cm rn
theorem FRel.n7 {fl st en : Int32} {F : FS} {i gv : Nat} {kf df : Nat → Int32} {M : MS} (h : FRel fl st en F i gv kf df M) : fKn F < 8 ∧ fN F ≤ 7 := ⟨h.1, by have := h.2.2.2.1; have := (cNeed_le (fKn F)).2; omega⟩
theorem LI.pre {st en fi : Int32} {cm rn : Nat} {F0 F1 F2 F3 : FS} {M : MS} {rf of kf df : Nat → Int32} (h : LI st en fi cm rn F0 F1 F2 F3 M rf of kf df) : (fKn F0 < 8 ∧ fN F0 ≤ 7) ∧ (fKn F1 < 8 ∧ fN F1 ≤ 7) ∧ (fKn F2 < 8 ∧ fN F2 ≤ 7) ∧ (fKn F3 < 8 ∧ fN F3 ≤ 7) ∧ rn ≤ 2000 := by
  obtain ⟨_, _, hc, _, G, hF, hA⟩ := h
  exact ⟨(hF 0 (by decide)).n7, (hF 1 (by decide)).n7, (hF 2 (by decide)).n7, (hF 3 (by decide)).n7, Nat.le_trans hA.le.2 hc⟩
theorem LI.room {en x : Int32} {cm rn k : Nat} {F0 F1 F2 F3 : FS} {f : Nat → Int32} {G : Nat → Nat} (hA : ACC en G (f4 F0 F1 F2 F3) cm rn) (hk : cm + k ≤ 2000) : rn + (sd (tE x) en F0 F1 F2 F3 k f).2.1 ≤ 2000 ∧ rn + (stg (tE x) en (f4 F0 F1 F2 F3) k f 4).2.1 ≤ 2000 := by
  have q := (ACC.next (x := x) (k := k) (f := f) hA).le.2
  rw [(stg_sd (tE x) en F0 F1 F2 F3 k f).1] at q ⊢
  omega
theorem LI.next {x st en : Int32} {cm rn k : Nat} {F0 F1 F2 F3 : FS} {M : MS} {f rf of kf df in1 : Nat → Int32} {G : Nat → Nat} (hz : en = 0 ∨ en = 1) (hx : x = 0 ∨ x = 1) (hA : ACC en G (f4 F0 F1 F2 F3) cm rn) (hk : cm + k ≤ 2000) (hGI : GI x st en (f4 F0 F1 F2 F3) G k f kf df 4 M in1)
    (ho : ∀ j, j < rn + (stg (tE x) en (f4 F0 F1 F2 F3) k f 4).2.1 → of j = va_cpy (stg (tE x) en (f4 F0 F1 F2 F3) k f 4).2.2 rf 0 rn (stg (tE x) en (f4 F0 F1 F2 F3) k f 4).2.1 j) :
    LI st en x (cm + k) (rn + (sd (tE x) en F0 F1 F2 F3 k f).2.1) (sd (tE x) en F0 F1 F2 F3 k f).1.1 (sd (tE x) en F0 F1 F2 F3 k f).1.2.1 (sd (tE x) en F0 F1 F2 F3 k f).1.2.2.1 (sd (tE x) en F0 F1 F2 F3 k f).1.2.2.2 M (va_cpy (sd (tE x) en F0 F1 F2 F3 k f).2.2 rf 0 rn (sd (tE x) en F0 F1 F2 F3 k f).2.1) of kf df := by
  obtain ⟨e1, e2⟩ := stg_sd (tE x) en F0 F1 F2 F3 k f
  have hA2 := ACC.next (x := x) (k := k) (f := f) hA
  rw [e1] at ho
  refine ⟨hz, hx, hk, ho, fun i => G i + (stg (tE x) en (f4 F0 F1 F2 F3) k f (ixE en i + 1)).2.1, fun i hi => ?_, ?_⟩
  · have q := hGI.1 i hi
    rw [if_pos (ixE_lt hi), if_pos (ixE_lt hi), e2 i hi] at q
    exact q
  · rw [e1] at hA2
    obtain ⟨c0, c1, c2, c3, c4⟩ := hA2
    rw [e2 _ (ixE_lt (by decide))] at c0 c1 c2 c3
    exact ⟨c0, c1, c2, c3, c4⟩
theorem zr_in (f : Nat → Int32) : ∀ (n q : Nat), q < n → zr f n q = 0
  | 0, q, h => absurd h (Nat.not_lt_zero q)
  | n + 1, q, h => by
    show upd (zr f n) n 0 q = 0
    by_cases e : q = n
    · subst e; exact pk_us
    · rw [pk_un e]; exact zr_in f n q (by omega)
theorem rL4_in (f : Nat → Int32) (v : Int32) : ∀ q, q < 4 → rL4 f v q = v := by
  intro q hq
  rcases (show q = 0 ∨ q = 1 ∨ q = 2 ∨ q = 3 by omega) with rfl | rfl | rfl | rfl
  · show upd (upd (upd (upd f 0 v) 1 v) 2 v) 3 v 0 = v
    rw [pk_un (by decide), pk_un (by decide), pk_un (by decide), pk_us]
  · show upd (upd (upd (upd f 0 v) 1 v) 2 v) 3 v 1 = v
    rw [pk_un (by decide), pk_un (by decide), pk_us]
  · show upd (upd (upd (upd f 0 v) 1 v) 2 v) 3 v 2 = v
    rw [pk_un (by decide), pk_us]
  · exact pk_us
theorem sub_5 (x : Int32) : x - (x - 5) = 5 := by
  rw [Int32.sub_eq_add_neg, Int32.neg_sub, Int32.add_comm, Int32.sub_add_cancel]
/-- the model's arrays, begun anew -/
def mAn (st : Int32) (M : MS) : MS := (mNx M, mH M, zr (mM M) 4, zr (mG M) 4, zr (mU M) 4, mN M, zr (mX M) 4, rL4 (mL M) (st - 5), zr (mP M) 128)
def KK (F : FS) (i : Nat) (kf df : Nat → Int32) : Prop := fKn F < 8 ∧ kf i = nI (fKn F) ∧ ∃ dn, 1 ≤ dn ∧ dn ≤ 32 ∧ fDs F = nI dn ∧ df i = nI dn
theorem FRel.kk {fl st en : Int32} {F : FS} {i gv : Nat} {kf df : Nat → Int32} {M : MS} (h : FRel fl st en F i gv kf df M) : KK F i kf df := ⟨h.1, h.2.1, h.2.2.1⟩
theorem FRel.anew {st en : Int32} {F : FS} {i : Nat} {kf df : Nat → Int32} (M : MS) (hi : i < 4) (h : KK F i kf df) : FRel 0 st en (fRestart F st en) i 0 kf df (mAn st M) := by
  have hm : mM (mAn st M) i = 0 := zr_in _ 4 i hi
  have hg : mG (mAn st M) i = 0 := zr_in _ 4 i hi
  refine ⟨h.1, h.2.1, h.2.2, (cNeed_le (fKn F)).1, rfl, hm, fun j hj => absurd hj (Nat.not_lt_zero j), fun j hj => absurd hj (Nat.not_lt_zero j), rfl, hg, zr_in _ 4 i hi, zr_in _ 4 i hi, fun _ => rfl, fun _ => ⟨rL4_in _ _ i hi, ?_, fun _ d d1 d2 => ?_, fun _ => ?_⟩⟩
  · show st = st + mG (mAn st M) i
    rw [hg, Int32.add_zero]
  · show zr (mP M) 128 (32 * i + (d - 1)) = zr (fPf F) 32 _
    exact (zr_in _ 128 _ (by omega)).trans (zr_in _ 32 _ (Nat.mod_lt _ (by decide))).symm
  · refine ⟨5, 0, sub_5 st, by decide, by omega, rfl, by decide, fun b _ b1 _ _ => ?_⟩
    rw [Nat.zero_testBit] at b1; cases b1
theorem f4_map (g : FS → FS) (F0 F1 F2 F3 : FS) (i : Nat) : f4 (g F0) (g F1) (g F2) (g F3) i = g (f4 F0 F1 F2 F3 i) := by
  unfold f4; split <;> rfl
theorem LI.anew {st en : Int32} {F0 F1 F2 F3 : FS} {M : MS} {rf of kf df : Nat → Int32} (hz : en = 0 ∨ en = 1) (h0 : KK F0 0 kf df) (h1 : KK F1 1 kf df) (h2 : KK F2 2 kf df) (h3 : KK F3 3 kf df) :
    LI st en 0 0 0 (fRestart F0 st en) (fRestart F1 st en) (fRestart F2 st en) (fRestart F3 st en) (mAn st M) rf of kf df := by
  refine ⟨hz, Or.inl rfl, by decide, fun j hj => absurd hj (Nat.not_lt_zero j), fun _ => 0, fun i hi => ?_, ?_⟩
  · rcases (show i = 0 ∨ i = 1 ∨ i = 2 ∨ i = 3 by omega) with rfl | rfl | rfl | rfl
    · exact FRel.anew M (by decide) h0
    · exact FRel.anew M (by decide) h1
    · exact FRel.anew M (by decide) h2
    · exact FRel.anew M (by decide) h3
  · have hn : ∀ j, fN (f4 (fRestart F0 st en) (fRestart F1 st en) (fRestart F2 st en) (fRestart F3 st en) j) = 0 := fun j => by rw [f4_map (fun F => fRestart F st en)]; rfl
    refine ⟨?_, ?_, ?_, ?_, rfl⟩ <;> rw [hn]
theorem LI.kk {st en fi : Int32} {cm rn : Nat} {F0 F1 F2 F3 : FS} {M : MS} {rf of kf df : Nat → Int32} (h : LI st en fi cm rn F0 F1 F2 F3 M rf of kf df) : KK F0 0 kf df ∧ KK F1 1 kf df ∧ KK F2 2 kf df ∧ KK F3 3 kf df := by
  obtain ⟨_, _, _, _, G, hF, _⟩ := h
  exact ⟨(hF 0 (by decide)).kk, (hF 1 (by decide)).kk, (hF 2 (by decide)).kk, (hF 3 (by decide)).kk⟩
theorem KK.old {F : FS} {i q kn dn : Nat} {kf df : Nat → Int32} (h : KK F i kf df) (hq : i ≠ q) : KK F i (upd kf q (nI kn)) (upd df q (nI dn)) := by
  obtain ⟨a, b, d, d1, d2, d3, d4⟩ := h
  exact ⟨a, (pk_un hq).trans b, d, d1, d2, d3, (pk_un hq).trans d4⟩
theorem KK.new {F : FS} {i kn dn : Nat} {kf df : Nat → Int32} (hk : kn < 8) (h1 : 1 ≤ dn) (h2 : dn ≤ 32) : KK (fBecome F kn (nI dn)) i (upd kf i (nI kn)) (upd df i (nI dn)) := ⟨hk, pk_us, dn, h1, h2, rfl, pk_us⟩
/-- what count answers, on both sides -/
theorem LI.cnt {st en fi : Int32} {cm rn i wn : Nat} {F0 F1 F2 F3 : FS} {M : MS} {rf of kf df : Nat → Int32} (h : LI st en fi cm rn F0 F1 F2 F3 M rf of kf df) (hi : i < 4) (hw : wn < 6) : cCnt (f4 F0 F1 F2 F3 i) wn = mCnt kf df (mM M) (mG M) (mU M) (mX M) i wn := by
  obtain ⟨_, _, _, _, G, hF, _⟩ := h
  obtain ⟨a1, a2, ⟨dn, d1, d2, d3, d4⟩, a4, a5, a6, a7, a8, a9, a10, a11, a12, a13, a14⟩ := hF i hi
  rcases (show wn = 0 ∨ wn = 1 ∨ wn = 2 ∨ wn = 3 ∨ wn = 4 ∨ wn = 5 by omega) with rfl | rfl | rfl | rfl | rfl | rfl
  · exact a2.symm
  · exact d3.trans d4.symm
  · exact a6.symm
  · exact a9.trans a10.symm
  · exact a11.symm
  · show fMk (f4 F0 F1 F2 F3 i) = if kf i = 2 then mX M i else 0
    by_cases e : fKn (f4 F0 F1 F2 F3 i) = 2
    · rw [if_pos (by rw [a2, e]; rfl), a12]
    · have h9 : ¬ kf i = 2 := fun w => e ((nI_eq (b := 2) (by omega) (by decide)).mp (a2.symm.trans w))
      rw [if_neg h9, a13 e]
theorem LI.out {st en fi : Int32} {cm rn : Nat} {F0 F1 F2 F3 : FS} {M : MS} {rf of kf df : Nat → Int32} (h : LI st en fi cm rn F0 F1 F2 F3 M rf of kf df) (x : Int32) : oOut rn of x = oOut rn rf x := by
  obtain ⟨_, _, hc, ho, G, hF, hA⟩ := h
  have hr : rn ≤ 2000 := Nat.le_trans hA.le.2 hc
  unfold oOut
  by_cases h0 : x < 0
  · rw [if_pos h0, if_pos h0]
  · rw [if_neg h0, if_neg h0]
    by_cases h1 : x < nI rn
    · rw [if_pos h1, if_pos h1]
      obtain ⟨j, hj, rfl⟩ := nI_of h0
      rw [nI_clamp hj]
      exact ho j ((nI_ltI hj (by omega)).mp h1)
    · rw [if_neg h1, if_neg h1]
theorem LI.word {st en fi : Int32} {cm rn j : Nat} {F0 F1 F2 F3 : FS} {M : MS} {rf of kf df : Nat → Int32} (h : LI st en fi cm rn F0 F1 F2 F3 M rf of kf df) (hj : j + 4 ≤ rn) : cLo of j = cLo rf j := by
  obtain ⟨_, _, _, ho, _⟩ := h
  unfold cLo
  rw [ho j (by omega), ho (j + 1) (by omega), ho (j + 2) (by omega), ho (j + 3) (by omega)]
theorem LI.init {rf of : Nat → Int32} : LI 0 1 0 0 0 fNew fNew fNew fNew (0, (fun _ => 0), zr (fun _ => 0) 4, zr (fun _ => 0) 4, zr (fun _ => 0) 4, (fun _ => 0), zr (fun _ => 0) 4, rL4 (fun _ => 0) (0 - 5), zr (fun _ => 0) 128) rf of (fun _ => 0) (rL4 (fun _ => 0) 1) := by
  have hk : ∀ i, i < 4 → KK (0, 0, 1, 1, 0, 0, 0, 0, 0, 0, (fun _ => 0), (fun _ => 0)) i (fun _ => 0) (rL4 (fun _ => 0) 1) := fun i hi => ⟨by decide, rfl, 1, by decide, by decide, rfl, rL4_in _ _ i hi⟩
  exact LI.anew (st := 0) (en := 1) (M := (0, (fun _ => 0), (fun _ => 0), (fun _ => 0), (fun _ => 0), (fun _ => 0), (fun _ => 0), (fun _ => 0), (fun _ => 0))) (Or.inr rfl) (hk 0 (by decide)) (hk 1 (by decide)) (hk 2 (by decide)) (hk 3 (by decide))
theorem cFill_at {f : Nat → Int32} {a b c d : Int32} : ∀ (n j : Nat), j < n → cFill f a b c d n j = cByte a b c d j
  | 0, j, h => absurd h (Nat.not_lt_zero j)
  | n + 1, j, h => by
    show upd (cFill f a b c d n) n _ j = _
    by_cases e : j = n
    · subst e; exact pk_us
    · rw [pk_un e]; exact cFill_at n j (by omega)
