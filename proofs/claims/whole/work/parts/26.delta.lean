/-! delta: the model's past against the class's -/
theorem rDn_at (b : Nat) : ∀ (k : Nat) (f : Nat → Int32) (q : Nat), rDn b k f q = if b < q ∧ q ≤ b + k then f (q - 1) else f q
  | 0, f, q => by
    rw [if_neg (by omega)]; rfl
  | k + 1, f, q => by
    show rDn b k (upd f (b + (k + 1)) (f (b + k))) q = _
    rw [rDn_at b k]
    by_cases h : b < q ∧ q ≤ b + k
    · rw [if_pos h, if_pos (by omega), pk_un (by omega)]
    · rw [if_neg h]
      by_cases e : q = b + (k + 1)
      · subst e
        rw [pk_us, if_pos (by omega)]; rfl
      · rw [pk_un e, if_neg (by omega)]
theorem b5_sub (x : Int32) {k : Nat} (hk : k ≤ 32) : b5 (x - nI k) = (b5 x + 32 - k) % 32 := by
  unfold b5
  rw [Int32.toBitVec_sub, BitVec.toNat_sub, show (nI k).toBitVec.toNat = k from pk_tn (by omega)]
  have := x.toBitVec.isLt
  omega
theorem sub_1n (x : Int32) {d : Nat} (hd : 1 ≤ d) : x + nI 1 - nI d = x - nI (d - 1) := by
  have e : nI d = nI (d - 1) + nI 1 := by rw [nI_add]; congr 1; omega
  rw [e, Int32.sub_eq_add_neg, Int32.neg_add, Int32.sub_eq_add_neg (-nI (d - 1)), Int32.add_assoc, ← Int32.add_assoc (nI 1), Int32.add_comm (nI 1), Int32.add_assoc (-nI (d - 1)), Int32.add_right_neg, Int32.add_zero, ← Int32.sub_eq_add_neg]
theorem and_255 (x : Int32) : (x &&& 255) &&& 255 = x &&& 255 := isB_and x
set_option maxHeartbeats 1000000 in
theorem k_delta {en st : Int32} {gv0 N i n dn : Nat} {s : cRS} {M : MS} (hi : i < 4) (hN : N ≤ 64) (hR : RRel 1 st gv0 N i n s M) (h1 : 1 ≤ n) (h2 : n ≤ 16) (hd1 : 1 ≤ dn) (hd2 : dn ≤ 32) :
    KOk 1 en (nI dn) st gv0 N i n s M (mNx M + 1, rSh (upd (mH M) (16 * i + 0) ((rDv en (mH M (16 * i + 0)) (mP M (32 * i + dn - 1))) &&& 255)) (16 * i) 1 (n - 1), upd (mM M) i (nI (n - 1)), upd (mG M) i (mG M i + nI 1), mU M, rCp (mN M) (mNx M) (fun k => (upd (mH M) (16 * i + 0) ((rDv en (mH M (16 * i + 0)) (mP M (32 * i + dn - 1))) &&& 255)) (16 * i + k)) 1, mX M, mL M, upd (rDn (32 * i) 31 (mP M)) (32 * i) (rDp en (mH M (16 * i + 0)) (rDv en (mH M (16 * i + 0)) (mP M (32 * i + dn - 1))))) := by
  have hR' := hR
  obtain ⟨r1, r2, r3, r4, r5, r6, r7, r8, r9, r10, r11, r12, r13, r14⟩ := hR'
  obtain ⟨h, pl, rp, mk, la, g, pf⟩ := s
  dsimp only at r2 r3 r4 r5 r6 r7 r8 r9 r12 r10 r14
  have e0 : mH M (16 * i + 0) = g h := r2 0 (by omega)
  have ep : mP M (32 * i + dn - 1) = pf (b5 (pl - nI dn)) := by rw [show 32 * i + dn - 1 = 32 * i + (dn - 1) by omega]; exact r10 rfl dn hd1 hd2
  rw [e0, ep]
  obtain ⟨v, ev⟩ : ∃ z, z = rDv en (g h) (pf (b5 (pl - nI dn))) := ⟨_, rfl⟩
  have bv : v &&& 255 = v := by rw [ev]; unfold rDv; split <;> exact and_255 _
  have hA : cDelta en pl (nI dn) h g pf = (1, upd g h v, upd pf (b5 pl) (rDp en (g h) v)) := by
    rw [ev]
    by_cases he : en = 0
    · have q1 : cMd en (g h) (-(pf (b5 (pl - nI dn)))) = g h + pf (b5 (pl - nI dn)) := by rw [show cMd en (g h) (-(pf (b5 (pl - nI dn)))) = _ from if_pos he, Int32.sub_eq_add_neg, Int32.neg_neg]
      have q2 : rDv en (g h) (pf (b5 (pl - nI dn))) = (g h + pf (b5 (pl - nI dn))) &&& 255 := if_pos he
      rw [show rDp en (g h) (rDv en (g h) (pf (b5 (pl - nI dn)))) = _ from if_pos he, show cDelta en pl (nI dn) h g pf = _ from if_pos he, q1, q2, pk_us]
    · have q1 : cMd en (g h) (-(pf (b5 (pl - nI dn)))) = g h - pf (b5 (pl - nI dn)) := by rw [show cMd en (g h) (-(pf (b5 (pl - nI dn)))) = _ from if_neg he, ← Int32.sub_eq_add_neg]
      have q2 : rDv en (g h) (pf (b5 (pl - nI dn))) = (g h - pf (b5 (pl - nI dn))) &&& 255 := if_neg he
      rw [show rDp en (g h) (rDv en (g h) (pf (b5 (pl - nI dn)))) = _ from if_neg he, show cDelta en pl (nI dn) h g pf = _ from if_neg he, q1, q2]
  rw [← ev, bv]
  refine KOk.of (mg := 1) (t := (rp, mk, la, upd g h v, upd pf (b5 pl) (rDp en (g h) v))) h1 (by decide) ?_ (give_rel (mg := 1) hi hN hR h1 h2 (fun j hj => ?_) (fun j hj => ?_) (fun j hj => ?_) r7 r8 r9 (fun _ d d1 d2 => ?_) (fun q => absurd q (by decide)) (fun _ => r14 (by decide))) (give_fr hi h2 (fun q hq => pk_un (by omega)) (fun _ _ => rfl) (fun _ _ => rfl) (fun _ _ => rfl) (fun q hq => ?_))
  · show (h + (cDelta en pl (nI dn) h g pf).1.toNatClampNeg, pl + (cDelta en pl (nI dn) h g pf).1, rp, mk, la, (cDelta en pl (nI dn) h g pf).2.1, (cDelta en pl (nI dn) h g pf).2.2) = _
    rw [hA]; rfl
  · show _ = upd g h v (h + j)
    rcases (show j = 0 ∨ 1 ≤ j by omega) with rfl | q
    · rw [pk_us]; exact pk_us.symm
    · rw [pk_un (by omega), pk_un (by omega), r2 j hj]
  · by_cases q : j = h
    · subst q; rw [pk_us]; exact bv
    · rw [pk_un q]; exact r3 j hj
  · have hj : j < h := hj
    exact pk_un (by omega)
  · show _ = upd pf (b5 pl) (rDp en (g h) v) (b5 (pl + nI 1 - nI d))
    rw [sub_1n pl d1]
    rcases (show d = 1 ∨ 2 ≤ d by omega) with rfl | q
    · rw [show pl - nI (1 - 1) = pl from Int32.sub_zero pl, pk_us]; exact pk_us
    · have hb := b5_sub pl (k := d - 1) (by omega)
      have hlt : b5 pl < 32 := Nat.mod_lt _ (by decide)
      rw [pk_un (by omega), pk_un (by rw [hb]; omega), rDn_at, if_pos (by omega)]
      rw [show 32 * i + (d - 1) - 1 = 32 * i + (d - 1 - 1) by omega]
      exact r10 rfl (d - 1) (by omega) (by omega)
  · rw [pk_un (by omega), rDn_at, if_neg (by omega)]
