/-! BranchFiltersModel: goThrough -/

set_option maxHeartbeats 4000000 in
set_option maxRecDepth 100000 in
theorem c_X3_goThrough (l : Launch) (D : va_G) (cI cF cJ : ClassId) (mq ak ad ah am ap ag au ax al ai an ao : Nat) (fa st en cm fi x : Int32) (k rn : Nat) (kf df inf of f rf : Nat → Int32) (FF : Nat → FS) (G : Nat → Nat) (M : MS) (hz : en = 0 ∨ en = 1) (hx1 : x = 0 ∨ x = 1) (hk : k ≤ 16) (hg : ∀ i, i < 4 → G i ≤ 2000) (hGI : GI x st en FF G k f kf df 0 M inf) (ho : ∀ j, j < rn → of j = rf j) (hrn : rn + (stg (tE x) en FF k f 4).2.1 ≤ 2000) : kVP (MS × (Nat → Int32) × (Nat → Int32)) l yX3_goThrough wsX3_goThrough ({ frames := 4, cells := 0, slots := 0, locals := 96 }) D (kTy cI cF cJ) [.ref mq, .int x] [(mq, .inr (3, [.int fa, .ref ak, .ref ad, .int st, .int en, .int cm, .int fi, .ref ah, .ref am, .ref ap, .ref ag, .ref au, .ref ax, .ref al, .ref ai, .int (nI k), .ref an, .int (nI (mNx M)), .ref ao, .int (nI rn)])), (ah, .inl (cI, 64, .inl (mH M))), (am, .inl (cI, 4, .inl (mM M))), (ag, .inl (cI, 4, .inl (mG M))), (au, .inl (cI, 4, .inl (mU M))), (an, .inl (cI, 64, .inl (mN M))), (ax, .inl (cI, 4, .inl (mX M))), (al, .inl (cI, 4, .inl (mL M))), (ap, .inl (cI, 128, .inl (mP M))), (ad, .inl (cI, 4, .inl df)), (ak, .inl (cI, 4, .inl kf)), (ai, .inl (cI, 64, .inl inf)), (ao, .inl (cI, 2000, .inl of))] (fun u => GI x st en FF G k f kf df 4 u.1 u.2.1 ∧ ∀ j, j < rn + (stg (tE x) en FF k f 4).2.1 → u.2.2 j = va_cpy ((stg (tE x) en FF k f 4).2.2) rf 0 rn ((stg (tE x) en FF k f 4).2.1) j) (fun u => [(mq, .inr (3, [.int fa, .ref ak, .ref ad, .int st, .int en, .int cm, .int fi, .ref ah, .ref am, .ref ap, .ref ag, .ref au, .ref ax, .ref al, .ref ai, .int (nI ((stg (tE x) en FF k f 4).2.1)), .ref an, .int (nI (mNx u.1)), .ref ao, .int (nI (rn + (stg (tE x) en FF k f 4).2.1))])), (ah, .inl (cI, 64, .inl (mH u.1))), (am, .inl (cI, 4, .inl (mM u.1))), (ag, .inl (cI, 4, .inl (mG u.1))), (au, .inl (cI, 4, .inl (mU u.1))), (an, .inl (cI, 64, .inl (mN u.1))), (ax, .inl (cI, 4, .inl (mX u.1))), (al, .inl (cI, 4, .inl (mL u.1))), (ap, .inl (cI, 128, .inl (mP u.1))), (ad, .inl (cI, 4, .inl df)), (ak, .inl (cI, 4, .inl kf)), (ai, .inl (cI, 64, .inl u.2.1)), (ao, .inl (cI, 2000, .inl u.2.2))]) := by
  refine kVP_of (cc := cX3_goThrough) (nL := 5) (own := RX3) (lv := [(0, .ref mq), (1, .int x)]) (by decide) rfl rfl (Nat.le_of_ble_eq_true rfl) rfl ?_
  intro p e s m args below meth c A ls Q C hA hK hP hD hS hl hret
  obtain ⟨hx, hb, hr, hml, hown, hts, hlocks⟩ := C
  have k_141 := hts (.fieldLink RX3 141 "BranchFiltersModel" "inMany" "I") (by decide +kernel)
  have k_16 := hts (.fieldLink RX3 16 "BranchFiltersModel" "encoding" "Z") (by decide +kernel)
  have k_23 := hts (.fieldLink RX3 23 "BranchFiltersModel" "heldMany" "[I") (by decide +kernel)
  have k_41 := hts (.fieldLink RX3 41 "BranchFiltersModel" "in" "[I") (by decide +kernel)
  have k_44 := hts (.fieldLink RX3 44 "BranchFiltersModel" "next" "[I") (by decide +kernel)
  have k_47 := hts (.fieldLink RX3 47 "BranchFiltersModel" "out" "[I") (by decide +kernel)
  have k_63 := hts (.fieldLink RX3 63 "BranchFiltersModel" "outMany" "I") (by decide +kernel)
  have k_7 := hts (.fieldLink RX3 7 "BranchFiltersModel" "kind" "[I") (by decide +kernel)
  have k_85 := hts (.fieldLink RX3 85 "BranchFiltersModel" "nextMany" "I") (by decide +kernel)
  have inX3 : ∀ w ∈ wsX30, w ∈ wsX3_goThrough := by decide +kernel
  have STG : ∀ (i gv kk : Nat) (F : FS) (ff in1 : Nat → Int32) (M1 : MS) (v2 : Int32) (hi : i < 4) (h0 : FRel 0 st en F i gv kf df M1) (hgv : gv ≤ 2000) (hkk : kk ≤ 50) (hin : ∀ j, j < kk → in1 j = ff j ∧ isB (ff j)) (kont : ∀ (M3 : MS) (i1 : Nat → Int32) (hSO : SOk (tE x) x st en F i gv kk ff kf df M1 M3) (hq : ∀ q, q < mNx M3 → i1 q = mN M3 q) (H : Heap) (locs : List Loc) (ls : Array Slot), va_P D vwCl [(mq, .inr (3, [.int fa, .ref ak, .ref ad, .int st, .int en, .int cm, .int fi, .ref ah, .ref am, .ref ap, .ref ag, .ref au, .ref ax, .ref al, .ref ai, .int (nI (mNx M3)), .ref an, .int (nI (mNx M3)), .ref ao, .int (nI rn)])), (ah, .inl (cI, 64, .inl (mH M3))), (am, .inl (cI, 4, .inl (mM M3))), (ag, .inl (cI, 4, .inl (mG M3))), (au, .inl (cI, 4, .inl (mU M3))), (an, .inl (cI, 64, .inl (mN M3))), (ax, .inl (cI, 4, .inl (mX M3))), (al, .inl (cI, 4, .inl (mL M3))), (ap, .inl (cI, 128, .inl (mP M3))), (ad, .inl (cI, 4, .inl df)), (ak, .inl (cI, 4, .inl kf)), (ai, .inl (cI, 64, .inl i1)), (ao, .inl (cI, 2000, .inl of))] H → va_D A [(mq, .inr (3, [.int fa, .ref ak, .ref ad, .int st, .int en, .int cm, .int fi, .ref ah, .ref am, .ref ap, .ref ag, .ref au, .ref ax, .ref al, .ref ai, .int (nI (mNx M3)), .ref an, .int (nI (mNx M3)), .ref ao, .int (nI rn)])), (ah, .inl (cI, 64, .inl (mH M3))), (am, .inl (cI, 4, .inl (mM M3))), (ag, .inl (cI, 4, .inl (mG M3))), (au, .inl (cI, 4, .inl (mU M3))), (an, .inl (cI, 64, .inl (mN M3))), (ax, .inl (cI, 4, .inl (mX M3))), (al, .inl (cI, 4, .inl (mL M3))), (ap, .inl (cI, 128, .inl (mP M3))), (ad, .inl (cI, 4, .inl df)), (ak, .inl (cI, 4, .inl kf)), (ai, .inl (cI, 64, .inl i1)), (ao, .inl (cI, 2000, .inl of))] → va_S A s.heap H locs → lv_has ls 5 [(0, .ref mq), (1, .int x), (2, .int v2)] → W p l e ({ frames := 4, cells := 0, slots := 0, locals := 96 }) s m args below meth c H locs 0 0 Q (kFr m 154 ls [])) (H : Heap) (locs : List Loc) (ls : Array Slot), va_P D vwCl [(mq, .inr (3, [.int fa, .ref ak, .ref ad, .int st, .int en, .int cm, .int fi, .ref ah, .ref am, .ref ap, .ref ag, .ref au, .ref ax, .ref al, .ref ai, .int (nI kk), .ref an, .int (nI (mNx M1)), .ref ao, .int (nI rn)])), (ah, .inl (cI, 64, .inl (mH M1))), (am, .inl (cI, 4, .inl (mM M1))), (ag, .inl (cI, 4, .inl (mG M1))), (au, .inl (cI, 4, .inl (mU M1))), (an, .inl (cI, 64, .inl (mN M1))), (ax, .inl (cI, 4, .inl (mX M1))), (al, .inl (cI, 4, .inl (mL M1))), (ap, .inl (cI, 128, .inl (mP M1))), (ad, .inl (cI, 4, .inl df)), (ak, .inl (cI, 4, .inl kf)), (ai, .inl (cI, 64, .inl in1)), (ao, .inl (cI, 2000, .inl of))] H → va_D A [(mq, .inr (3, [.int fa, .ref ak, .ref ad, .int st, .int en, .int cm, .int fi, .ref ah, .ref am, .ref ap, .ref ag, .ref au, .ref ax, .ref al, .ref ai, .int (nI kk), .ref an, .int (nI (mNx M1)), .ref ao, .int (nI rn)])), (ah, .inl (cI, 64, .inl (mH M1))), (am, .inl (cI, 4, .inl (mM M1))), (ag, .inl (cI, 4, .inl (mG M1))), (au, .inl (cI, 4, .inl (mU M1))), (an, .inl (cI, 64, .inl (mN M1))), (ax, .inl (cI, 4, .inl (mX M1))), (al, .inl (cI, 4, .inl (mL M1))), (ap, .inl (cI, 128, .inl (mP M1))), (ad, .inl (cI, 4, .inl df)), (ak, .inl (cI, 4, .inl kf)), (ai, .inl (cI, 64, .inl in1)), (ao, .inl (cI, 2000, .inl of))] → va_S A s.heap H locs → lv_has ls 5 [(0, .ref mq), (1, .int x), (2, .int v2)] → W p l e ({ frames := 4, cells := 0, slots := 0, locals := 96 }) s m args below meth c H locs 0 0 Q (kFr m 21 ls [.int (nI i)]) := by
    intro i gv kk F ff in1 M1 v2 hi h0 hgv hkk hin kont H locs ls hP hD hS hl
    obtain ⟨dn, hd1, hd2, ed, edf⟩ := h0.2.2.1
    have hEn : fEn F = en := h0.2.2.2.2.1
    have hn7 : fN F < cNeed (fKn F) := h0.2.2.2.1
    have hnd := cNeed_le (fKn F)
    have J114 : ∀ (M3 : MS) (hSO : SOk (tE x) x st en F i gv kk ff kf df M1 M3) (H : Heap) (locs : List Loc) (ls : Array Slot), va_P D vwCl [(mq, .inr (3, [.int fa, .ref ak, .ref ad, .int st, .int en, .int cm, .int fi, .ref ah, .ref am, .ref ap, .ref ag, .ref au, .ref ax, .ref al, .ref ai, .int (nI kk), .ref an, .int (nI (mNx M3)), .ref ao, .int (nI rn)])), (ah, .inl (cI, 64, .inl (mH M3))), (am, .inl (cI, 4, .inl (mM M3))), (ag, .inl (cI, 4, .inl (mG M3))), (au, .inl (cI, 4, .inl (mU M3))), (an, .inl (cI, 64, .inl (mN M3))), (ax, .inl (cI, 4, .inl (mX M3))), (al, .inl (cI, 4, .inl (mL M3))), (ap, .inl (cI, 128, .inl (mP M3))), (ad, .inl (cI, 4, .inl df)), (ak, .inl (cI, 4, .inl kf)), (ai, .inl (cI, 64, .inl in1)), (ao, .inl (cI, 2000, .inl of))] H → va_D A [(mq, .inr (3, [.int fa, .ref ak, .ref ad, .int st, .int en, .int cm, .int fi, .ref ah, .ref am, .ref ap, .ref ag, .ref au, .ref ax, .ref al, .ref ai, .int (nI kk), .ref an, .int (nI (mNx M3)), .ref ao, .int (nI rn)])), (ah, .inl (cI, 64, .inl (mH M3))), (am, .inl (cI, 4, .inl (mM M3))), (ag, .inl (cI, 4, .inl (mG M3))), (au, .inl (cI, 4, .inl (mU M3))), (an, .inl (cI, 64, .inl (mN M3))), (ax, .inl (cI, 4, .inl (mX M3))), (al, .inl (cI, 4, .inl (mL M3))), (ap, .inl (cI, 128, .inl (mP M3))), (ad, .inl (cI, 4, .inl df)), (ak, .inl (cI, 4, .inl kf)), (ai, .inl (cI, 64, .inl in1)), (ao, .inl (cI, 2000, .inl of))] → va_S A s.heap H locs → lv_has ls 5 [(0, .ref mq), (1, .int x), (2, .int v2), (3, .int (nI i))] → W p l e ({ frames := 4, cells := 0, slots := 0, locals := 96 }) s m args below meth c H locs 0 0 Q (kFr m 114 ls []) := by
      intro M3 hSO H locs ls hP hD hS hl
      have hm64 : mNx M3 ≤ 64 := by have q := hSO.2.1; have q2 := hSO.2.2.2.2; omega
      refine lv_aload_n hx hb dX3_goThrough_114 rfl (lv_at hl 0 rfl) ?_
      refine lv_aload_n hx hb dX3_goThrough_115 rfl (lv_at hl 0 rfl) ?_
      refine va_get (D := D) (ci := 3) (v := .int (nI (mNx M3))) (C := RX3) (T := TX3) (N := 20) hx hb hts inX3 hown hK hP 0 rfl rfl 17 (by decide) k_85 (fun _ h9 => h9) rfl dX3_goThrough_116 ?_
      refine kPut (D := D) (ci := 3) (v := .int (nI (mNx M3))) (ty := .int) (C := RX3) (T := TX3) (N := 20) (ws' := [(mq, .inr (3, [.int fa, .ref ak, .ref ad, .int st, .int en, .int cm, .int fi, .ref ah, .ref am, .ref ap, .ref ag, .ref au, .ref ax, .ref al, .ref ai, .int (nI (mNx M3)), .ref an, .int (nI (mNx M3)), .ref ao, .int (nI rn)])), (ah, .inl (cI, 64, .inl (mH M3))), (am, .inl (cI, 4, .inl (mM M3))), (ag, .inl (cI, 4, .inl (mG M3))), (au, .inl (cI, 4, .inl (mU M3))), (an, .inl (cI, 64, .inl (mN M3))), (ax, .inl (cI, 4, .inl (mX M3))), (al, .inl (cI, 4, .inl (mL M3))), (ap, .inl (cI, 128, .inl (mP M3))), (ad, .inl (cI, 4, .inl df)), (ak, .inl (cI, 4, .inl kf)), (ai, .inl (cI, 64, .inl in1)), (ao, .inl (cI, 2000, .inl of))]) hx hb hts inX3 tyX3 tyX3_ok nmX3 hown hK hP hD hS 0 rfl rfl 15 (by decide) k_141 rfl (by decide +kernel) (rfl) (by first | rfl | decide) (Nat.le_of_ble_eq_true rfl) rfl dX3_goThrough_119 (fun H locs hP hD hS => ?_)
      refine lv_iconst (v := 0) hx hb dX3_goThrough_122 (by decide) ?_
      refine lv_istore (lv' := [(4, .int 0), (0, .ref mq), (1, .int x), (2, .int v2), (3, .int (nI i))]) hx hb dX3_goThrough_123 hl (by decide) rfl (fun ls hl => ?_)
      have loopC : ∀ (K : Nat) (j : Nat) (i1 : Nat → Int32) (hj : j + K = mNx M3) (hq1 : ∀ q, q < j → i1 q = mN M3 q) (H : Heap) (locs : List Loc) (ls : Array Slot), va_P D vwCl [(mq, .inr (3, [.int fa, .ref ak, .ref ad, .int st, .int en, .int cm, .int fi, .ref ah, .ref am, .ref ap, .ref ag, .ref au, .ref ax, .ref al, .ref ai, .int (nI (mNx M3)), .ref an, .int (nI (mNx M3)), .ref ao, .int (nI rn)])), (ah, .inl (cI, 64, .inl (mH M3))), (am, .inl (cI, 4, .inl (mM M3))), (ag, .inl (cI, 4, .inl (mG M3))), (au, .inl (cI, 4, .inl (mU M3))), (an, .inl (cI, 64, .inl (mN M3))), (ax, .inl (cI, 4, .inl (mX M3))), (al, .inl (cI, 4, .inl (mL M3))), (ap, .inl (cI, 128, .inl (mP M3))), (ad, .inl (cI, 4, .inl df)), (ak, .inl (cI, 4, .inl kf)), (ai, .inl (cI, 64, .inl i1)), (ao, .inl (cI, 2000, .inl of))] H → va_D A [(mq, .inr (3, [.int fa, .ref ak, .ref ad, .int st, .int en, .int cm, .int fi, .ref ah, .ref am, .ref ap, .ref ag, .ref au, .ref ax, .ref al, .ref ai, .int (nI (mNx M3)), .ref an, .int (nI (mNx M3)), .ref ao, .int (nI rn)])), (ah, .inl (cI, 64, .inl (mH M3))), (am, .inl (cI, 4, .inl (mM M3))), (ag, .inl (cI, 4, .inl (mG M3))), (au, .inl (cI, 4, .inl (mU M3))), (an, .inl (cI, 64, .inl (mN M3))), (ax, .inl (cI, 4, .inl (mX M3))), (al, .inl (cI, 4, .inl (mL M3))), (ap, .inl (cI, 128, .inl (mP M3))), (ad, .inl (cI, 4, .inl df)), (ak, .inl (cI, 4, .inl kf)), (ai, .inl (cI, 64, .inl i1)), (ao, .inl (cI, 2000, .inl of))] → va_S A s.heap H locs → lv_has ls 5 [(0, .ref mq), (1, .int x), (2, .int v2), (3, .int (nI i)), (4, .int (nI j))] → W p l e ({ frames := 4, cells := 0, slots := 0, locals := 96 }) s m args below meth c H locs 0 0 Q (kFr m 125 ls []) := by
        intro K
        induction K with
        | zero =>
          intro j i1 hj hq1 H locs ls hP hD hS hl
          refine lv_iload hx hb dX3_goThrough_125 (lv_at hl 4 rfl) ?_
          refine lv_aload_n hx hb dX3_goThrough_127 rfl (lv_at hl 0 rfl) ?_
          refine va_get (D := D) (ci := 3) (v := .int (nI (mNx M3))) (C := RX3) (T := TX3) (N := 20) hx hb hts inX3 hown hK hP 0 rfl rfl 17 (by decide) k_85 (fun _ h9 => h9) rfl dX3_goThrough_128 ?_
          refine lv_icmp_ge (tgt := 154) hx hb dX3_goThrough_131 (by decide) (fun c_1 => ?_) (fun c_1 => ?_)
          · exact kont M3 i1 hSO (fun q hq => hq1 q (by omega)) _ _ _ hP hD hS (lv_sub hl [0, 1, 2] rfl)
          · exact absurd ((kLe (a := mNx M3) (b := j) rfl rfl (by omega) (by omega)).mpr (by omega)) c_1
        | succ K ih =>
          intro j i1 hj hq1 H locs ls hP hD hS hl
          refine lv_iload hx hb dX3_goThrough_125 (lv_at hl 4 rfl) ?_
          refine lv_aload_n hx hb dX3_goThrough_127 rfl (lv_at hl 0 rfl) ?_
          refine va_get (D := D) (ci := 3) (v := .int (nI (mNx M3))) (C := RX3) (T := TX3) (N := 20) hx hb hts inX3 hown hK hP 0 rfl rfl 17 (by decide) k_85 (fun _ h9 => h9) rfl dX3_goThrough_128 ?_
          refine lv_icmp_ge (tgt := 154) hx hb dX3_goThrough_131 (by decide) (fun c_2 => ?_) (fun c_2 => ?_)
          · exact absurd ((kLe (a := mNx M3) (b := j) rfl rfl (by omega) (by omega)).mp c_2) (by omega)
          · refine lv_aload_n hx hb dX3_goThrough_134 rfl (lv_at hl 0 rfl) ?_
            refine va_get (D := D) (ci := 3) (v := .ref ai) (C := RX3) (T := TX3) (N := 20) hx hb hts inX3 hown hK hP 0 rfl rfl 14 (by decide) k_41 (fun _ h9 => h9) rfl dX3_goThrough_135 ?_
            refine lv_iload hx hb dX3_goThrough_138 (lv_at hl 4 rfl) ?_
            refine lv_aload_n hx hb dX3_goThrough_140 rfl (lv_at hl 0 rfl) ?_
            refine va_get (D := D) (ci := 3) (v := .ref an) (C := RX3) (T := TX3) (N := 20) hx hb hts inX3 hown hK hP 0 rfl rfl 16 (by decide) k_44 (fun _ h9 => h9) rfl dX3_goThrough_141 ?_
            refine lv_iload hx hb dX3_goThrough_144 (lv_at hl 4 rfl) ?_
            refine kIald (k := j) hx hb hK hP 5 0 rfl rfl (rfl) (by omega) (by omega) dX3_goThrough_146 ?_
            refine kIast (k := j) (ws' := [(mq, .inr (3, [.int fa, .ref ak, .ref ad, .int st, .int en, .int cm, .int fi, .ref ah, .ref am, .ref ap, .ref ag, .ref au, .ref ax, .ref al, .ref ai, .int (nI (mNx M3)), .ref an, .int (nI (mNx M3)), .ref ao, .int (nI rn)])), (ah, .inl (cI, 64, .inl (mH M3))), (am, .inl (cI, 4, .inl (mM M3))), (ag, .inl (cI, 4, .inl (mG M3))), (au, .inl (cI, 4, .inl (mU M3))), (an, .inl (cI, 64, .inl (mN M3))), (ax, .inl (cI, 4, .inl (mX M3))), (al, .inl (cI, 4, .inl (mL M3))), (ap, .inl (cI, 128, .inl (mP M3))), (ad, .inl (cI, 4, .inl df)), (ak, .inl (cI, 4, .inl kf)), (ai, .inl (cI, 64, .inl (upd i1 j ((mN M3) j)))), (ao, .inl (cI, 2000, .inl of))]) hx hb hK hP hD hS 11 0 rfl rfl (rfl) (by omega) (by omega) rfl dX3_goThrough_147 (fun H locs hP hD hS => ?_)
            refine lv_iinc (v := nI (j + 1)) (lv' := [(4, .int (nI (j + 1))), (0, .ref mq), (1, .int x), (2, .int v2), (3, .int (nI i))]) hx hb dX3_goThrough_148 hl (k := 4) rfl (nI_1 _) (by decide) rfl (fun ls hl => ?_)
            refine lv_goto (tgt := 125) hx hb dX3_goThrough_151 (by decide) ?_
            exact ih (j + 1) (upd i1 j (mN M3 j)) (by omega) (up_pre hq1 rfl) _ _ _ hP hD hS (lv_sub hl [1, 2, 3, 4, 0] rfl)
      exact loopC (mNx M3) 0 in1 (by omega) (fun q hq => absurd hq (Nat.not_lt_zero q)) _ _ _ hP hD hS (lv_sub hl [1, 2, 3, 4, 0] rfl)
    refine lv_istore_n (lv' := [(3, .int (nI i)), (0, .ref mq), (1, .int x), (2, .int v2)]) hx hb dX3_goThrough_21 rfl hl (by decide) rfl (fun ls hl => ?_)
    refine lv_aload_n hx hb dX3_goThrough_22 rfl (lv_at hl 1 rfl) ?_
    refine lv_iconst (v := 0) hx hb dX3_goThrough_23 (by decide) ?_
    refine kPut (D := D) (ci := 3) (v := .int 0) (ty := .int) (C := RX3) (T := TX3) (N := 20) (ws' := [(mq, .inr (3, [.int fa, .ref ak, .ref ad, .int st, .int en, .int cm, .int fi, .ref ah, .ref am, .ref ap, .ref ag, .ref au, .ref ax, .ref al, .ref ai, .int (nI kk), .ref an, .int 0, .ref ao, .int (nI rn)])), (ah, .inl (cI, 64, .inl (mH M1))), (am, .inl (cI, 4, .inl (mM M1))), (ag, .inl (cI, 4, .inl (mG M1))), (au, .inl (cI, 4, .inl (mU M1))), (an, .inl (cI, 64, .inl (mN M1))), (ax, .inl (cI, 4, .inl (mX M1))), (al, .inl (cI, 4, .inl (mL M1))), (ap, .inl (cI, 128, .inl (mP M1))), (ad, .inl (cI, 4, .inl df)), (ak, .inl (cI, 4, .inl kf)), (ai, .inl (cI, 64, .inl in1)), (ao, .inl (cI, 2000, .inl of))]) hx hb hts inX3 tyX3 tyX3_ok nmX3 hown hK hP hD hS 0 rfl rfl 17 (by decide) k_85 rfl (by decide +kernel) (rfl) (by first | rfl | decide) (Nat.le_of_ble_eq_true rfl) rfl dX3_goThrough_24 (fun H locs hP hD hS => ?_)
    refine lv_iconst (v := 0) hx hb dX3_goThrough_27 (by decide) ?_
    refine lv_istore (lv' := [(4, .int 0), (3, .int (nI i)), (0, .ref mq), (1, .int x), (2, .int v2)]) hx hb dX3_goThrough_28 hl (by decide) rfl (fun ls hl => ?_)
    have loopA : ∀ (K : Nat) (t n : Nat) (sR : cRS) (M2 : MS) (ht : t + K = kk) (hAI : AI F st gv kk ff i M1 (fN F + t) n sR M2) (hn : n < cNeed (fKn F)) (H : Heap) (locs : List Loc) (ls : Array Slot), va_P D vwCl [(mq, .inr (3, [.int fa, .ref ak, .ref ad, .int st, .int en, .int cm, .int fi, .ref ah, .ref am, .ref ap, .ref ag, .ref au, .ref ax, .ref al, .ref ai, .int (nI kk), .ref an, .int (nI (mNx M2)), .ref ao, .int (nI rn)])), (ah, .inl (cI, 64, .inl (mH M2))), (am, .inl (cI, 4, .inl (mM M2))), (ag, .inl (cI, 4, .inl (mG M2))), (au, .inl (cI, 4, .inl (mU M2))), (an, .inl (cI, 64, .inl (mN M2))), (ax, .inl (cI, 4, .inl (mX M2))), (al, .inl (cI, 4, .inl (mL M2))), (ap, .inl (cI, 128, .inl (mP M2))), (ad, .inl (cI, 4, .inl df)), (ak, .inl (cI, 4, .inl kf)), (ai, .inl (cI, 64, .inl in1)), (ao, .inl (cI, 2000, .inl of))] H → va_D A [(mq, .inr (3, [.int fa, .ref ak, .ref ad, .int st, .int en, .int cm, .int fi, .ref ah, .ref am, .ref ap, .ref ag, .ref au, .ref ax, .ref al, .ref ai, .int (nI kk), .ref an, .int (nI (mNx M2)), .ref ao, .int (nI rn)])), (ah, .inl (cI, 64, .inl (mH M2))), (am, .inl (cI, 4, .inl (mM M2))), (ag, .inl (cI, 4, .inl (mG M2))), (au, .inl (cI, 4, .inl (mU M2))), (an, .inl (cI, 64, .inl (mN M2))), (ax, .inl (cI, 4, .inl (mX M2))), (al, .inl (cI, 4, .inl (mL M2))), (ap, .inl (cI, 128, .inl (mP M2))), (ad, .inl (cI, 4, .inl df)), (ak, .inl (cI, 4, .inl kf)), (ai, .inl (cI, 64, .inl in1)), (ao, .inl (cI, 2000, .inl of))] → va_S A s.heap H locs → lv_has ls 5 [(0, .ref mq), (1, .int x), (2, .int v2), (3, .int (nI i)), (4, .int (nI t))] → W p l e ({ frames := 4, cells := 0, slots := 0, locals := 96 }) s m args below meth c H locs 0 0 Q (kFr m 30 ls []) := by
      intro K
      induction K with
      | zero =>
        intro t n sR M2 ht hAI hn H locs ls hP hD hS hl
        have hAI2 : AI F st gv kk ff i M1 (fN F + kk) n sR M2 := by have e : fN F + t = fN F + kk := (by omega); rw [e] at hAI; exact hAI
        have hr64 : sR.1 + n ≤ 64 := by have q := hAI2.2.1; omega
        have hnx : mNx M2 = sR.1 := hAI2.1.2.2.2.2.2.2.2.2.2.2.1
        refine lv_iload hx hb dX3_goThrough_30 (lv_at hl 4 rfl) ?_
        refine lv_aload_n hx hb dX3_goThrough_32 rfl (lv_at hl 0 rfl) ?_
        refine va_get (D := D) (ci := 3) (v := .int (nI kk)) (C := RX3) (T := TX3) (N := 20) hx hb hts inX3 hown hK hP 0 rfl rfl 15 (by decide) k_141 (fun _ h9 => h9) rfl dX3_goThrough_33 ?_
        refine lv_icmp_ge (tgt := 99) hx hb dX3_goThrough_36 (by decide) (fun c_3 => ?_) (fun c_3 => ?_)
        · refine lv_iload_n hx hb dX3_goThrough_99 rfl (lv_at hl 1 rfl) ?_
          refine lv_if_eq (tgt := 114) hx hb dX3_goThrough_100 (by decide) (fun c_4 => ?_) (fun c_4 => ?_)
          · exact J114 M2 (by have e9 : tE x = s0 := if_pos c_4; rw [e9, c_4]; exact AI.st0 h0 hAI2 hn) _ _ _ hP hD hS (lv_sub hl [0, 1, 2, 3] rfl)
          · refine lv_aload_n hx hb dX3_goThrough_103 rfl (lv_at hl 0 rfl) ?_
            refine lv_iload_n hx hb dX3_goThrough_104 rfl (lv_at hl 3 rfl) ?_
            refine lv_aload_n hx hb dX3_goThrough_105 rfl (lv_at hl 0 rfl) ?_
            refine va_get (D := D) (ci := 3) (v := .ref am) (C := RX3) (T := TX3) (N := 20) hx hb hts inX3 hown hK hP 0 rfl rfl 8 (by decide) k_23 (fun _ h9 => h9) rfl dX3_goThrough_106 ?_
            refine lv_iload_n hx hb dX3_goThrough_109 rfl (lv_at hl 3 rfl) ?_
            refine kIald (k := i) hx hb hK hP 2 0 rfl rfl (rfl) (by omega) (by omega) dX3_goThrough_110 ?_
            refine kTop (y := nI n) (hAI2.1.1) ?_
            refine kCallV (As := [.int (nI i), .int (nI n)]) (wc := [(mq, .inr (3, [.int fa, .ref ak, .ref ad, .int st, .int en, .int cm, .int fi, .ref ah, .ref am, .ref ap, .ref ag, .ref au, .ref ax, .ref al, .ref ai, .int (nI kk), .ref an, .int (nI (mNx M2)), .ref ao, .int (nI rn)])), (ah, .inl (cI, 64, .inl (mH M2))), (am, .inl (cI, 4, .inl (mM M2))), (ag, .inl (cI, 4, .inl (mG M2))), (an, .inl (cI, 64, .inl (mN M2)))]) (wr := [(au, .inl (cI, 4, .inl (mU M2))), (ax, .inl (cI, 4, .inl (mX M2))), (al, .inl (cI, 4, .inl (mL M2))), (ap, .inl (cI, 128, .inl (mP M2))), (ad, .inl (cI, 4, .inl df)), (ak, .inl (cI, 4, .inl kf)), (ai, .inl (cI, 64, .inl in1)), (ao, .inl (cI, 2000, .inl of))]) (ws' := [(mq, .inr (3, [.int fa, .ref ak, .ref ad, .int st, .int en, .int cm, .int fi, .ref ah, .ref am, .ref ap, .ref ag, .ref au, .ref ax, .ref al, .ref ai, .int (nI kk), .ref an, .int (nI ((mNx M2) + n)), .ref ao, .int (nI rn)])), (ah, .inl (cI, 64, .inl (rSh (mH M2) (16 * i) n (n - n)))), (am, .inl (cI, 4, .inl (upd (mM M2) i (nI (n - n))))), (ag, .inl (cI, 4, .inl (upd (mG M2) i ((mG M2) i + nI n)))), (au, .inl (cI, 4, .inl (mU M2))), (an, .inl (cI, 64, .inl (rCp (mN M2) (mNx M2) (fun k => (mH M2) (16 * i + k)) n))), (ax, .inl (cI, 4, .inl (mX M2))), (al, .inl (cI, 4, .inl (mL M2))), (ap, .inl (cI, 128, .inl (mP M2))), (ad, .inl (cI, 4, .inl df)), (ak, .inl (cI, 4, .inl kf)), (ai, .inl (cI, 64, .inl in1)), (ao, .inl (cI, 2000, .inl of))]) (ci := 3) (C := RX3) ⟨hx, hb, hml, hown, hts⟩ (c_X3_give l D cI cF cJ mq ak ad ah am ap ag au ax al ai an ao fa st en cm fi (nI kk) (nI rn) i n n (mNx M2) (mH M2) (mM M2) (mG M2) (mN M2) (hi) (hAI2.1.1) (by omega) (by omega) (by omega)) (cwV 2 hts gX3_goThrough_X3_give rfl rfl rfl (by decide +kernel) ⟨Nat.le_of_ble_eq_true rfl, Nat.le_of_ble_eq_true rfl⟩) hK hP hD hS hA [0, 1, 2, 3, 5] [4, 6, 7, 8, 9, 10, 11, 12] [8, 9, 10, 11, 0, 12, 1, 2, 3, 4, 5, 6, 7] rfl rfl rfl rfl (by decide) rfl rfl rfl rfl rfl hl.1 (Nat.le_of_ble_eq_true rfl) ⟨Nat.zero_le _, Nat.zero_le _⟩ dX3_goThrough_111 (fun H locs hP hD hS => ?_) rfl
            exact J114 _ (by have e9 : tE x = s1 := if_neg c_4; have e8 : x = 1 := hx1.resolve_left c_4; rw [e9, e8]; exact AI.st1 hi h0 hAI2 hn) _ _ _ hP hD hS (lv_sub hl [0, 1, 2, 3] rfl)
        · exact absurd ((kLe (a := kk) (b := t) rfl rfl (by omega) (by omega)).mpr (by omega)) c_3
      | succ K ih =>
        intro t n sR M2 ht hAI hn H locs ls hP hD hS hl
        have ihA := ih
        have loopB : ∀ (K2 : Nat) (n2 : Nat) (sR2 : cRS) (M4 : MS) (hf2 : n2 < K2 + cNeed (fKn F)) (h8 : n2 ≤ 8) (hAI2 : AI F st gv kk ff i M1 (fN F + t + 1) n2 sR2 M4) (H : Heap) (locs : List Loc) (ls : Array Slot), va_P D vwCl [(mq, .inr (3, [.int fa, .ref ak, .ref ad, .int st, .int en, .int cm, .int fi, .ref ah, .ref am, .ref ap, .ref ag, .ref au, .ref ax, .ref al, .ref ai, .int (nI kk), .ref an, .int (nI (mNx M4)), .ref ao, .int (nI rn)])), (ah, .inl (cI, 64, .inl (mH M4))), (am, .inl (cI, 4, .inl (mM M4))), (ag, .inl (cI, 4, .inl (mG M4))), (au, .inl (cI, 4, .inl (mU M4))), (an, .inl (cI, 64, .inl (mN M4))), (ax, .inl (cI, 4, .inl (mX M4))), (al, .inl (cI, 4, .inl (mL M4))), (ap, .inl (cI, 128, .inl (mP M4))), (ad, .inl (cI, 4, .inl df)), (ak, .inl (cI, 4, .inl kf)), (ai, .inl (cI, 64, .inl in1)), (ao, .inl (cI, 2000, .inl of))] H → va_D A [(mq, .inr (3, [.int fa, .ref ak, .ref ad, .int st, .int en, .int cm, .int fi, .ref ah, .ref am, .ref ap, .ref ag, .ref au, .ref ax, .ref al, .ref ai, .int (nI kk), .ref an, .int (nI (mNx M4)), .ref ao, .int (nI rn)])), (ah, .inl (cI, 64, .inl (mH M4))), (am, .inl (cI, 4, .inl (mM M4))), (ag, .inl (cI, 4, .inl (mG M4))), (au, .inl (cI, 4, .inl (mU M4))), (an, .inl (cI, 64, .inl (mN M4))), (ax, .inl (cI, 4, .inl (mX M4))), (al, .inl (cI, 4, .inl (mL M4))), (ap, .inl (cI, 128, .inl (mP M4))), (ad, .inl (cI, 4, .inl df)), (ak, .inl (cI, 4, .inl kf)), (ai, .inl (cI, 64, .inl in1)), (ao, .inl (cI, 2000, .inl of))] → va_S A s.heap H locs → lv_has ls 5 [(0, .ref mq), (1, .int x), (2, .int v2), (3, .int (nI i)), (4, .int (nI t))] → W p l e ({ frames := 4, cells := 0, slots := 0, locals := 96 }) s m args below meth c H locs 0 0 Q (kFr m 67 ls []) := by
          intro K2
          induction K2 with
          | zero =>
            intro n2 sR2 M4 hf2 h8 hAI2 H locs ls hP hD hS hl
            have hr64 : sR2.1 + n2 ≤ 64 := by have q := hAI2.2.1; have q2 := hAI2.1.2.2.2.1; omega
            refine lv_aload_n hx hb dX3_goThrough_67 rfl (lv_at hl 0 rfl) ?_
            refine va_get (D := D) (ci := 3) (v := .ref am) (C := RX3) (T := TX3) (N := 20) hx hb hts inX3 hown hK hP 0 rfl rfl 8 (by decide) k_23 (fun _ h9 => h9) rfl dX3_goThrough_68 ?_
            refine lv_iload_n hx hb dX3_goThrough_71 rfl (lv_at hl 3 rfl) ?_
            refine kIald (k := i) hx hb hK hP 2 0 rfl rfl (rfl) (by omega) (by omega) dX3_goThrough_72 ?_
            refine kTop (y := nI n2) (hAI2.1.1) ?_
            refine lv_aload_n hx hb dX3_goThrough_73 rfl (lv_at hl 0 rfl) ?_
            refine va_get (D := D) (ci := 3) (v := .ref ak) (C := RX3) (T := TX3) (N := 20) hx hb hts inX3 hown hK hP 0 rfl rfl 1 (by decide) k_7 (fun _ h9 => h9) rfl dX3_goThrough_74 ?_
            refine lv_iload_n hx hb dX3_goThrough_77 rfl (lv_at hl 3 rfl) ?_
            refine kIald (k := i) hx hb hK hP 10 0 rfl rfl (rfl) (by omega) (by omega) dX3_goThrough_78 ?_
            refine kTop (y := nI (fKn F)) (h0.2.1) ?_
            refine kCallS (As := [.int (nI (fKn F))]) ⟨hx, hb, hml, hown, hts⟩ (c_X3_needs l D cI cF cJ (nI (fKn F)) ) (cwS 1 hts gX3_goThrough_X3_needs rfl rfl rfl (by decide +kernel) ⟨Nat.le_of_ble_eq_true rfl, Nat.le_of_ble_eq_true rfl⟩) hK hP hD hS hA rfl hl.1 (Nat.le_of_ble_eq_true rfl) ⟨Nat.zero_le _, Nat.zero_le _⟩ dX3_goThrough_79 (fun H locs hP hD hS => ?_) rfl
            refine kTop (y := nI (cNeed (fKn F))) (rNeed_n _ h0.1) ?_
            refine lv_icmp_lt (tgt := 93) hx hb dX3_goThrough_82 (by decide) (fun c_5 => ?_) (fun c_5 => ?_)
            · have hlt : n2 < cNeed (fKn F) := (kLt (a := n2) (b := cNeed (fKn F)) rfl rfl (by omega) (by omega)).mp c_5
              refine lv_iinc (v := nI (t + 1)) (lv' := [(4, .int (nI (t + 1))), (0, .ref mq), (1, .int x), (2, .int v2), (3, .int (nI i))]) hx hb dX3_goThrough_93 hl (k := 4) rfl (nI_1 _) (by decide) rfl (fun ls hl => ?_)
              refine lv_goto (tgt := 30) hx hb dX3_goThrough_96 (by decide) ?_
              exact ihA (t + 1) n2 sR2 M4 (by omega) hAI2 hlt _ _ _ hP hD hS (lv_sub hl [1, 2, 3, 4, 0] rfl)
            · exact absurd ((kLt (a := n2) (b := cNeed (fKn F)) rfl rfl (by omega) (by omega)).mpr (by omega)) c_5
          | succ K2 ih =>
            intro n2 sR2 M4 hf2 h8 hAI2 H locs ls hP hD hS hl
            have hr64 : sR2.1 + n2 ≤ 64 := by have q := hAI2.2.1; have q2 := hAI2.1.2.2.2.1; omega
            refine lv_aload_n hx hb dX3_goThrough_67 rfl (lv_at hl 0 rfl) ?_
            refine va_get (D := D) (ci := 3) (v := .ref am) (C := RX3) (T := TX3) (N := 20) hx hb hts inX3 hown hK hP 0 rfl rfl 8 (by decide) k_23 (fun _ h9 => h9) rfl dX3_goThrough_68 ?_
            refine lv_iload_n hx hb dX3_goThrough_71 rfl (lv_at hl 3 rfl) ?_
            refine kIald (k := i) hx hb hK hP 2 0 rfl rfl (rfl) (by omega) (by omega) dX3_goThrough_72 ?_
            refine kTop (y := nI n2) (hAI2.1.1) ?_
            refine lv_aload_n hx hb dX3_goThrough_73 rfl (lv_at hl 0 rfl) ?_
            refine va_get (D := D) (ci := 3) (v := .ref ak) (C := RX3) (T := TX3) (N := 20) hx hb hts inX3 hown hK hP 0 rfl rfl 1 (by decide) k_7 (fun _ h9 => h9) rfl dX3_goThrough_74 ?_
            refine lv_iload_n hx hb dX3_goThrough_77 rfl (lv_at hl 3 rfl) ?_
            refine kIald (k := i) hx hb hK hP 10 0 rfl rfl (rfl) (by omega) (by omega) dX3_goThrough_78 ?_
            refine kTop (y := nI (fKn F)) (h0.2.1) ?_
            refine kCallS (As := [.int (nI (fKn F))]) ⟨hx, hb, hml, hown, hts⟩ (c_X3_needs l D cI cF cJ (nI (fKn F)) ) (cwS 1 hts gX3_goThrough_X3_needs rfl rfl rfl (by decide +kernel) ⟨Nat.le_of_ble_eq_true rfl, Nat.le_of_ble_eq_true rfl⟩) hK hP hD hS hA rfl hl.1 (Nat.le_of_ble_eq_true rfl) ⟨Nat.zero_le _, Nat.zero_le _⟩ dX3_goThrough_79 (fun H locs hP hD hS => ?_) rfl
            refine kTop (y := nI (cNeed (fKn F))) (rNeed_n _ h0.1) ?_
            refine lv_icmp_lt (tgt := 93) hx hb dX3_goThrough_82 (by decide) (fun c_6 => ?_) (fun c_6 => ?_)
            · have hlt : n2 < cNeed (fKn F) := (kLt (a := n2) (b := cNeed (fKn F)) rfl rfl (by omega) (by omega)).mp c_6
              refine lv_iinc (v := nI (t + 1)) (lv' := [(4, .int (nI (t + 1))), (0, .ref mq), (1, .int x), (2, .int v2), (3, .int (nI i))]) hx hb dX3_goThrough_93 hl (k := 4) rfl (nI_1 _) (by decide) rfl (fun ls hl => ?_)
              refine lv_goto (tgt := 30) hx hb dX3_goThrough_96 (by decide) ?_
              exact ihA (t + 1) n2 sR2 M4 (by omega) hAI2 hlt _ _ _ hP hD hS (lv_sub hl [1, 2, 3, 4, 0] rfl)
            · refine lv_aload_n hx hb dX3_goThrough_85 rfl (lv_at hl 0 rfl) ?_
              refine lv_iload_n hx hb dX3_goThrough_86 rfl (lv_at hl 3 rfl) ?_
              have hge : cNeed (fKn F) ≤ n2 := Nat.le_of_not_lt (fun q => c_6 ((kLt (a := n2) (b := cNeed (fKn F)) rfl rfl (by omega) (by omega)).mpr q))
              refine kCallVP (As := [.int (nI i)]) (wc := [(mq, .inr (3, [.int fa, .ref ak, .ref ad, .int st, .int en, .int cm, .int fi, .ref ah, .ref am, .ref ap, .ref ag, .ref au, .ref ax, .ref al, .ref ai, .int (nI kk), .ref an, .int (nI (mNx M4)), .ref ao, .int (nI rn)])), (ah, .inl (cI, 64, .inl (mH M4))), (am, .inl (cI, 4, .inl (mM M4))), (ag, .inl (cI, 4, .inl (mG M4))), (au, .inl (cI, 4, .inl (mU M4))), (an, .inl (cI, 64, .inl (mN M4))), (ax, .inl (cI, 4, .inl (mX M4))), (al, .inl (cI, 4, .inl (mL M4))), (ap, .inl (cI, 128, .inl (mP M4))), (ad, .inl (cI, 4, .inl df)), (ak, .inl (cI, 4, .inl kf))]) (wr := [(ai, .inl (cI, 64, .inl in1)), (ao, .inl (cI, 2000, .inl of))]) (ws' := fun M5 => [(mq, .inr (3, [.int fa, .ref ak, .ref ad, .int st, .int en, .int cm, .int fi, .ref ah, .ref am, .ref ap, .ref ag, .ref au, .ref ax, .ref al, .ref ai, .int (nI kk), .ref an, .int (nI (mNx M5)), .ref ao, .int (nI rn)])), (ah, .inl (cI, 64, .inl (mH M5))), (am, .inl (cI, 4, .inl (mM M5))), (ag, .inl (cI, 4, .inl (mG M5))), (au, .inl (cI, 4, .inl (mU M5))), (an, .inl (cI, 64, .inl (mN M5))), (ax, .inl (cI, 4, .inl (mX M5))), (al, .inl (cI, 4, .inl (mL M5))), (ap, .inl (cI, 128, .inl (mP M5))), (ad, .inl (cI, 4, .inl df)), (ak, .inl (cI, 4, .inl kf)), (ai, .inl (cI, 64, .inl in1)), (ao, .inl (cI, 2000, .inl of))]) (ci := 3) (C := RX3) ⟨hx, hb, hml, hown, hts⟩ (c_X3_work l D cI cF cJ mq ak ad ah am ap ag au ax al ai an ao fa st en cm fi (nI kk) (nI rn) i n2 (fKn F) dn gv (fN F + kk) kf df sR2 M4 (hi) (h0.1) (h0.2.1) (edf) (hd1) (hd2) (by omega) (hAI2.1) (hge) (by omega) (by omega)) (cwV 1 hts gX3_goThrough_X3_work rfl rfl rfl (by decide +kernel) ⟨Nat.le_of_ble_eq_true rfl, Nat.le_of_ble_eq_true rfl⟩) hK hP hD hS hA [0, 1, 2, 3, 4, 5, 6, 7, 8, 9, 10] [11, 12] [2, 3, 4, 5, 6, 7, 8, 9, 10, 11, 12, 0, 1] rfl rfl rfl rfl (by decide) (fun _ => rfl) rfl rfl rfl rfl hl.1 (Nat.le_of_ble_eq_true rfl) ⟨Nat.zero_le _, Nat.zero_le _⟩ dX3_goThrough_87 (fun M5 H locs hu hP hD hS => ?_) rfl
              obtain ⟨n3, s3, hlt3, hAI3⟩ := AI.work h0.1 (by omega) hAI2 hge (by rw [hEn, ed]; exact hu)
              refine lv_goto (tgt := 67) hx hb dX3_goThrough_90 (by decide) ?_
              exact ih n3 s3 M5 (by omega) (by omega) hAI3 _ _ _ hP hD hS (lv_sub hl [0, 1, 2, 3, 4] rfl)
        have hr64 : sR.1 + n ≤ 64 := by have q := hAI.2.1; omega
        refine lv_iload hx hb dX3_goThrough_30 (lv_at hl 4 rfl) ?_
        refine lv_aload_n hx hb dX3_goThrough_32 rfl (lv_at hl 0 rfl) ?_
        refine va_get (D := D) (ci := 3) (v := .int (nI kk)) (C := RX3) (T := TX3) (N := 20) hx hb hts inX3 hown hK hP 0 rfl rfl 15 (by decide) k_141 (fun _ h9 => h9) rfl dX3_goThrough_33 ?_
        refine lv_icmp_ge (tgt := 99) hx hb dX3_goThrough_36 (by decide) (fun c_7 => ?_) (fun c_7 => ?_)
        · exact absurd ((kLe (a := kk) (b := t) rfl rfl (by omega) (by omega)).mp c_7) (by omega)
        · refine lv_aload_n hx hb dX3_goThrough_39 rfl (lv_at hl 0 rfl) ?_
          refine lv_iload_n hx hb dX3_goThrough_40 rfl (lv_at hl 3 rfl) ?_
          refine lv_aload_n hx hb dX3_goThrough_41 rfl (lv_at hl 0 rfl) ?_
          refine va_get (D := D) (ci := 3) (v := .ref am) (C := RX3) (T := TX3) (N := 20) hx hb hts inX3 hown hK hP 0 rfl rfl 8 (by decide) k_23 (fun _ h9 => h9) rfl dX3_goThrough_42 ?_
          refine lv_iload_n hx hb dX3_goThrough_45 rfl (lv_at hl 3 rfl) ?_
          refine kIald (k := i) hx hb hK hP 2 0 rfl rfl (rfl) (by omega) (by omega) dX3_goThrough_46 ?_
          refine kTop (y := nI n) (hAI.1.1) ?_
          refine lv_aload_n hx hb dX3_goThrough_47 rfl (lv_at hl 0 rfl) ?_
          refine va_get (D := D) (ci := 3) (v := .ref ai) (C := RX3) (T := TX3) (N := 20) hx hb hts inX3 hown hK hP 0 rfl rfl 14 (by decide) k_41 (fun _ h9 => h9) rfl dX3_goThrough_48 ?_
          refine lv_iload hx hb dX3_goThrough_51 (lv_at hl 4 rfl) ?_
          refine kIald (k := t) hx hb hK hP 11 0 rfl rfl (rfl) (by omega) (by omega) dX3_goThrough_53 ?_
          refine kCallV (As := [.int (nI i), .int (nI n), .int (in1 t)]) (wc := [(mq, .inr (3, [.int fa, .ref ak, .ref ad, .int st, .int en, .int cm, .int fi, .ref ah, .ref am, .ref ap, .ref ag, .ref au, .ref ax, .ref al, .ref ai, .int (nI kk), .ref an, .int (nI (mNx M2)), .ref ao, .int (nI rn)])), (ah, .inl (cI, 64, .inl (mH M2)))]) (wr := [(am, .inl (cI, 4, .inl (mM M2))), (ag, .inl (cI, 4, .inl (mG M2))), (au, .inl (cI, 4, .inl (mU M2))), (an, .inl (cI, 64, .inl (mN M2))), (ax, .inl (cI, 4, .inl (mX M2))), (al, .inl (cI, 4, .inl (mL M2))), (ap, .inl (cI, 128, .inl (mP M2))), (ad, .inl (cI, 4, .inl df)), (ak, .inl (cI, 4, .inl kf)), (ai, .inl (cI, 64, .inl in1)), (ao, .inl (cI, 2000, .inl of))]) (ws' := [(mq, .inr (3, [.int fa, .ref ak, .ref ad, .int st, .int en, .int cm, .int fi, .ref ah, .ref am, .ref ap, .ref ag, .ref au, .ref ax, .ref al, .ref ai, .int (nI kk), .ref an, .int (nI (mNx M2)), .ref ao, .int (nI rn)])), (ah, .inl (cI, 64, .inl (upd (mH M2) (16 * i + n) ((in1 t) &&& 255)))), (am, .inl (cI, 4, .inl (mM M2))), (ag, .inl (cI, 4, .inl (mG M2))), (au, .inl (cI, 4, .inl (mU M2))), (an, .inl (cI, 64, .inl (mN M2))), (ax, .inl (cI, 4, .inl (mX M2))), (al, .inl (cI, 4, .inl (mL M2))), (ap, .inl (cI, 128, .inl (mP M2))), (ad, .inl (cI, 4, .inl df)), (ak, .inl (cI, 4, .inl kf)), (ai, .inl (cI, 64, .inl in1)), (ao, .inl (cI, 2000, .inl of))]) (ci := 3) (C := RX3) ⟨hx, hb, hml, hown, hts⟩ (c_X3_change l D cI cF cJ mq ak ad ah am ap ag au ax al ai an ao fa st en cm fi (nI kk) (nI (mNx M2)) (nI rn) i n (in1 t) (mH M2) (by omega) (by omega)) (cwV 3 hts gX3_goThrough_X3_change rfl rfl rfl (by decide +kernel) ⟨Nat.le_of_ble_eq_true rfl, Nat.le_of_ble_eq_true rfl⟩) hK hP hD hS hA [0, 1] [2, 3, 4, 5, 6, 7, 8, 9, 10, 11, 12] [11, 12, 0, 1, 2, 3, 4, 5, 6, 7, 8, 9, 10] rfl rfl rfl rfl (by decide) rfl rfl rfl rfl rfl hl.1 (Nat.le_of_ble_eq_true rfl) ⟨Nat.zero_le _, Nat.zero_le _⟩ dX3_goThrough_54 (fun H locs hP hD hS => ?_) rfl
          refine lv_aload_n hx hb dX3_goThrough_57 rfl (lv_at hl 0 rfl) ?_
          refine va_get (D := D) (ci := 3) (v := .ref am) (C := RX3) (T := TX3) (N := 20) hx hb hts inX3 hown hK hP 0 rfl rfl 8 (by decide) k_23 (fun _ h9 => h9) rfl dX3_goThrough_58 ?_
          refine lv_iload_n hx hb dX3_goThrough_61 rfl (lv_at hl 3 rfl) ?_
          refine lv_dup2_11 hx hb dX3_goThrough_62 rfl rfl ?_
          refine kIald (k := i) hx hb hK hP 2 0 rfl rfl (rfl) (by omega) (by omega) dX3_goThrough_63 ?_
          refine lv_iconst (v := 1) hx hb dX3_goThrough_64 (by decide) ?_
          refine lv_iadd hx hb dX3_goThrough_65 ?_
          refine kTop (y := nI (n + 1)) (by rw [hAI.1.1]; exact nI_add n 1) ?_
          refine kIast (k := i) (ws' := [(mq, .inr (3, [.int fa, .ref ak, .ref ad, .int st, .int en, .int cm, .int fi, .ref ah, .ref am, .ref ap, .ref ag, .ref au, .ref ax, .ref al, .ref ai, .int (nI kk), .ref an, .int (nI (mNx M2)), .ref ao, .int (nI rn)])), (ah, .inl (cI, 64, .inl (upd (mH M2) (16 * i + n) ((in1 t) &&& 255)))), (am, .inl (cI, 4, .inl (upd (mM M2) i (nI (n + 1))))), (ag, .inl (cI, 4, .inl (mG M2))), (au, .inl (cI, 4, .inl (mU M2))), (an, .inl (cI, 64, .inl (mN M2))), (ax, .inl (cI, 4, .inl (mX M2))), (al, .inl (cI, 4, .inl (mL M2))), (ap, .inl (cI, 128, .inl (mP M2))), (ad, .inl (cI, 4, .inl df)), (ak, .inl (cI, 4, .inl kf)), (ai, .inl (cI, 64, .inl in1)), (ao, .inl (cI, 2000, .inl of))]) hx hb hK hP hD hS 2 0 rfl rfl (rfl) (by omega) (by omega) rfl dX3_goThrough_66 (fun H locs hP hD hS => ?_)
          have hAd := AI.add (x := in1 t) hi (by omega) (by have q := hAI.2.1; omega) hAI (by rw [(hin t (by omega)).1, pk_cpy_in (by omega) (by omega)]; exact congrArg ff (by omega))
          exact loopB (n + 1) (n + 1) sR _ (by omega) (by omega) hAd _ _ _ hP hD hS (lv_sub hl [0, 1, 2, 3, 4] rfl)
    exact loopA kk 0 (fN F) (fS0 F kk ff) (0, M1.2) (by omega) (AI.start h0 (fun j hj => (hin j hj).2)) hn7 _ _ _ hP hD hS (lv_sub hl [2, 3, 4, 1, 0] rfl)
  refine lv_iconst (v := 0) hx hb dX3_goThrough_0 (by decide) ?_
  refine lv_istore_n (lv' := [(2, .int 0), (0, .ref mq), (1, .int x)]) hx hb dX3_goThrough_1 rfl hl (by decide) rfl (fun ls hl => ?_)
  have loop : ∀ (K : Nat) (sg : Nat) (M1 : MS) (in1 : Nat → Int32) (hsg : sg + K = 4) (hGI : GI x st en FF G k f kf df sg M1 in1) (H : Heap) (locs : List Loc) (ls : Array Slot), va_P D vwCl [(mq, .inr (3, [.int fa, .ref ak, .ref ad, .int st, .int en, .int cm, .int fi, .ref ah, .ref am, .ref ap, .ref ag, .ref au, .ref ax, .ref al, .ref ai, .int (nI ((stg (tE x) en FF k f sg).2.1)), .ref an, .int (nI (mNx M1)), .ref ao, .int (nI rn)])), (ah, .inl (cI, 64, .inl (mH M1))), (am, .inl (cI, 4, .inl (mM M1))), (ag, .inl (cI, 4, .inl (mG M1))), (au, .inl (cI, 4, .inl (mU M1))), (an, .inl (cI, 64, .inl (mN M1))), (ax, .inl (cI, 4, .inl (mX M1))), (al, .inl (cI, 4, .inl (mL M1))), (ap, .inl (cI, 128, .inl (mP M1))), (ad, .inl (cI, 4, .inl df)), (ak, .inl (cI, 4, .inl kf)), (ai, .inl (cI, 64, .inl in1)), (ao, .inl (cI, 2000, .inl of))] H → va_D A [(mq, .inr (3, [.int fa, .ref ak, .ref ad, .int st, .int en, .int cm, .int fi, .ref ah, .ref am, .ref ap, .ref ag, .ref au, .ref ax, .ref al, .ref ai, .int (nI ((stg (tE x) en FF k f sg).2.1)), .ref an, .int (nI (mNx M1)), .ref ao, .int (nI rn)])), (ah, .inl (cI, 64, .inl (mH M1))), (am, .inl (cI, 4, .inl (mM M1))), (ag, .inl (cI, 4, .inl (mG M1))), (au, .inl (cI, 4, .inl (mU M1))), (an, .inl (cI, 64, .inl (mN M1))), (ax, .inl (cI, 4, .inl (mX M1))), (al, .inl (cI, 4, .inl (mL M1))), (ap, .inl (cI, 128, .inl (mP M1))), (ad, .inl (cI, 4, .inl df)), (ak, .inl (cI, 4, .inl kf)), (ai, .inl (cI, 64, .inl in1)), (ao, .inl (cI, 2000, .inl of))] → va_S A s.heap H locs → lv_has ls 5 [(0, .ref mq), (1, .int x), (2, .int (nI sg))] → W p l e ({ frames := 4, cells := 0, slots := 0, locals := 96 }) s m args below meth c H locs 0 0 Q (kFr m 2 ls []) := by
    intro K
    induction K with
    | zero =>
      intro sg M1 in1 hsg hGI H locs ls hP hD hS hl
      obtain rfl : sg = 4 := by omega
      have h44 : (stg (tE x) en FF k f 4).2.1 ≤ 44 := hGI.2.2
      refine lv_iload_n hx hb dX3_goThrough_2 rfl (lv_at hl 2 rfl) ?_
      refine lv_iconst (v := 4) hx hb dX3_goThrough_3 (by decide) ?_
      refine lv_icmp_ge (tgt := 160) hx hb dX3_goThrough_4 (by decide) (fun c_8 => ?_) (fun c_8 => ?_)
      · refine lv_iconst (v := 0) hx hb dX3_goThrough_160 (by decide) ?_
        refine lv_istore_n (lv' := [(2, .int 0), (0, .ref mq), (1, .int x)]) hx hb dX3_goThrough_161 rfl hl (by decide) rfl (fun ls hl => ?_)
        have loopD : ∀ (K : Nat) (j : Nat) (of1 : Nat → Int32) (hj : j + K = (stg (tE x) en FF k f 4).2.1) (ho1 : ∀ q, q < rn + j → of1 q = va_cpy ((stg (tE x) en FF k f 4).2.2) rf 0 rn ((stg (tE x) en FF k f 4).2.1) q) (H : Heap) (locs : List Loc) (ls : Array Slot), va_P D vwCl [(mq, .inr (3, [.int fa, .ref ak, .ref ad, .int st, .int en, .int cm, .int fi, .ref ah, .ref am, .ref ap, .ref ag, .ref au, .ref ax, .ref al, .ref ai, .int (nI ((stg (tE x) en FF k f 4).2.1)), .ref an, .int (nI (mNx M1)), .ref ao, .int (nI (rn + j))])), (ah, .inl (cI, 64, .inl (mH M1))), (am, .inl (cI, 4, .inl (mM M1))), (ag, .inl (cI, 4, .inl (mG M1))), (au, .inl (cI, 4, .inl (mU M1))), (an, .inl (cI, 64, .inl (mN M1))), (ax, .inl (cI, 4, .inl (mX M1))), (al, .inl (cI, 4, .inl (mL M1))), (ap, .inl (cI, 128, .inl (mP M1))), (ad, .inl (cI, 4, .inl df)), (ak, .inl (cI, 4, .inl kf)), (ai, .inl (cI, 64, .inl in1)), (ao, .inl (cI, 2000, .inl of1))] H → va_D A [(mq, .inr (3, [.int fa, .ref ak, .ref ad, .int st, .int en, .int cm, .int fi, .ref ah, .ref am, .ref ap, .ref ag, .ref au, .ref ax, .ref al, .ref ai, .int (nI ((stg (tE x) en FF k f 4).2.1)), .ref an, .int (nI (mNx M1)), .ref ao, .int (nI (rn + j))])), (ah, .inl (cI, 64, .inl (mH M1))), (am, .inl (cI, 4, .inl (mM M1))), (ag, .inl (cI, 4, .inl (mG M1))), (au, .inl (cI, 4, .inl (mU M1))), (an, .inl (cI, 64, .inl (mN M1))), (ax, .inl (cI, 4, .inl (mX M1))), (al, .inl (cI, 4, .inl (mL M1))), (ap, .inl (cI, 128, .inl (mP M1))), (ad, .inl (cI, 4, .inl df)), (ak, .inl (cI, 4, .inl kf)), (ai, .inl (cI, 64, .inl in1)), (ao, .inl (cI, 2000, .inl of1))] → va_S A s.heap H locs → lv_has ls 5 [(0, .ref mq), (1, .int x), (2, .int (nI j))] → W p l e ({ frames := 4, cells := 0, slots := 0, locals := 96 }) s m args below meth c H locs 0 0 Q (kFr m 162 ls []) := by
          intro K
          induction K with
          | zero =>
            intro j of1 hj ho1 H locs ls hP hD hS hl
            have ej : j = (stg (tE x) en FF k f 4).2.1 := by omega
            subst ej
            refine lv_iload_n hx hb dX3_goThrough_162 rfl (lv_at hl 2 rfl) ?_
            refine lv_aload_n hx hb dX3_goThrough_163 rfl (lv_at hl 0 rfl) ?_
            refine va_get (D := D) (ci := 3) (v := .int (nI ((stg (tE x) en FF k f 4).2.1))) (C := RX3) (T := TX3) (N := 20) hx hb hts inX3 hown hK hP 0 rfl rfl 15 (by decide) k_141 (fun _ h9 => h9) rfl dX3_goThrough_164 ?_
            refine lv_icmp_ge (tgt := 201) hx hb dX3_goThrough_167 (by decide) (fun c_9 => ?_) (fun c_9 => ?_)
            · exact hret (M1, in1, of1) _ _ _ _ ⟨hGI, ho1⟩ dX3_goThrough_201 hP hD hS
            · exact absurd ((kLe rfl rfl (by omega) (by omega)).mpr (Nat.le_refl _)) c_9
          | succ K ih =>
            intro j of1 hj ho1 H locs ls hP hD hS hl
            refine lv_iload_n hx hb dX3_goThrough_162 rfl (lv_at hl 2 rfl) ?_
            refine lv_aload_n hx hb dX3_goThrough_163 rfl (lv_at hl 0 rfl) ?_
            refine va_get (D := D) (ci := 3) (v := .int (nI ((stg (tE x) en FF k f 4).2.1))) (C := RX3) (T := TX3) (N := 20) hx hb hts inX3 hown hK hP 0 rfl rfl 15 (by decide) k_141 (fun _ h9 => h9) rfl dX3_goThrough_164 ?_
            refine lv_icmp_ge (tgt := 201) hx hb dX3_goThrough_167 (by decide) (fun c_10 => ?_) (fun c_10 => ?_)
            · exact absurd ((kLe (a := (stg (tE x) en FF k f 4).2.1) (b := j) rfl rfl (by omega) (by omega)).mp c_10) (by omega)
            · refine lv_aload_n hx hb dX3_goThrough_170 rfl (lv_at hl 0 rfl) ?_
              refine va_get (D := D) (ci := 3) (v := .ref ao) (C := RX3) (T := TX3) (N := 20) hx hb hts inX3 hown hK hP 0 rfl rfl 18 (by decide) k_47 (fun _ h9 => h9) rfl dX3_goThrough_171 ?_
              refine lv_aload_n hx hb dX3_goThrough_174 rfl (lv_at hl 0 rfl) ?_
              refine va_get (D := D) (ci := 3) (v := .int (nI (rn + j))) (C := RX3) (T := TX3) (N := 20) hx hb hts inX3 hown hK hP 0 rfl rfl 19 (by decide) k_63 (fun _ h9 => h9) rfl dX3_goThrough_175 ?_
              refine lv_aload_n hx hb dX3_goThrough_178 rfl (lv_at hl 0 rfl) ?_
              refine va_get (D := D) (ci := 3) (v := .ref ai) (C := RX3) (T := TX3) (N := 20) hx hb hts inX3 hown hK hP 0 rfl rfl 14 (by decide) k_41 (fun _ h9 => h9) rfl dX3_goThrough_179 ?_
              refine lv_iload_n hx hb dX3_goThrough_182 rfl (lv_at hl 2 rfl) ?_
              refine kIald (k := j) hx hb hK hP 11 0 rfl rfl (rfl) (by omega) (by omega) dX3_goThrough_183 ?_
              refine kIast (k := (rn + j)) (ws' := [(mq, .inr (3, [.int fa, .ref ak, .ref ad, .int st, .int en, .int cm, .int fi, .ref ah, .ref am, .ref ap, .ref ag, .ref au, .ref ax, .ref al, .ref ai, .int (nI ((stg (tE x) en FF k f 4).2.1)), .ref an, .int (nI (mNx M1)), .ref ao, .int (nI (rn + j))])), (ah, .inl (cI, 64, .inl (mH M1))), (am, .inl (cI, 4, .inl (mM M1))), (ag, .inl (cI, 4, .inl (mG M1))), (au, .inl (cI, 4, .inl (mU M1))), (an, .inl (cI, 64, .inl (mN M1))), (ax, .inl (cI, 4, .inl (mX M1))), (al, .inl (cI, 4, .inl (mL M1))), (ap, .inl (cI, 128, .inl (mP M1))), (ad, .inl (cI, 4, .inl df)), (ak, .inl (cI, 4, .inl kf)), (ai, .inl (cI, 64, .inl in1)), (ao, .inl (cI, 2000, .inl (upd of1 (rn + j) (in1 j))))]) hx hb hK hP hD hS 12 0 rfl rfl (rfl) (by omega) (by omega) rfl dX3_goThrough_184 (fun H locs hP hD hS => ?_)
              refine lv_aload_n hx hb dX3_goThrough_185 rfl (lv_at hl 0 rfl) ?_
              refine lv_dup hx hb dX3_goThrough_186 rfl ?_
              refine va_get (D := D) (ci := 3) (v := .int (nI (rn + j))) (C := RX3) (T := TX3) (N := 20) hx hb hts inX3 hown hK hP 0 rfl rfl 19 (by decide) k_63 (fun _ h9 => h9) rfl dX3_goThrough_187 ?_
              refine lv_iconst (v := 1) hx hb dX3_goThrough_190 (by decide) ?_
              refine lv_iadd hx hb dX3_goThrough_191 ?_
              refine kTop (y := nI ((rn + j) + 1)) (nI_add (rn + j) 1) ?_
              refine kPut (D := D) (ci := 3) (v := .int (nI ((rn + j) + 1))) (ty := .int) (C := RX3) (T := TX3) (N := 20) (ws' := [(mq, .inr (3, [.int fa, .ref ak, .ref ad, .int st, .int en, .int cm, .int fi, .ref ah, .ref am, .ref ap, .ref ag, .ref au, .ref ax, .ref al, .ref ai, .int (nI ((stg (tE x) en FF k f 4).2.1)), .ref an, .int (nI (mNx M1)), .ref ao, .int (nI ((rn + j) + 1))])), (ah, .inl (cI, 64, .inl (mH M1))), (am, .inl (cI, 4, .inl (mM M1))), (ag, .inl (cI, 4, .inl (mG M1))), (au, .inl (cI, 4, .inl (mU M1))), (an, .inl (cI, 64, .inl (mN M1))), (ax, .inl (cI, 4, .inl (mX M1))), (al, .inl (cI, 4, .inl (mL M1))), (ap, .inl (cI, 128, .inl (mP M1))), (ad, .inl (cI, 4, .inl df)), (ak, .inl (cI, 4, .inl kf)), (ai, .inl (cI, 64, .inl in1)), (ao, .inl (cI, 2000, .inl (upd of1 (rn + j) (in1 j))))]) hx hb hts inX3 tyX3 tyX3_ok nmX3 hown hK hP hD hS 0 rfl rfl 19 (by decide) k_63 rfl (by decide +kernel) (rfl) (by first | rfl | decide) (Nat.le_of_ble_eq_true rfl) rfl dX3_goThrough_192 (fun H locs hP hD hS => ?_)
              refine lv_iinc (v := nI (j + 1)) (lv' := [(2, .int (nI (j + 1))), (0, .ref mq), (1, .int x)]) hx hb dX3_goThrough_195 hl (k := 2) rfl (nI_1 _) (by decide) rfl (fun ls hl => ?_)
              refine lv_goto (tgt := 162) hx hb dX3_goThrough_198 (by decide) ?_
              exact ih (j + 1) (upd of1 (rn + j) (in1 j)) (by omega) (up_pre (j := rn + j) ho1 (by rw [(hGI.2.1 j (by omega)).1, pk_cpy_in (by omega) (by omega)]; exact congrArg _ (by omega))) _ _ _ hP hD hS (lv_sub hl [1, 2, 0] rfl)
        exact loopD _ 0 of (Nat.zero_add _) (fun q hq => (ho q (by omega)).trans (pk_cpy_out (Or.inl (by omega))).symm) _ _ _ hP hD hS (lv_sub hl [1, 2, 0] rfl)
      · exact absurd (by decide) c_8
    | succ K ih =>
      intro sg M1 in1 hsg hGI H locs ls hP hD hS hl
      have hs4 : sg < 4 := by omega
      refine lv_iload_n hx hb dX3_goThrough_2 rfl (lv_at hl 2 rfl) ?_
      refine lv_iconst (v := 4) hx hb dX3_goThrough_3 (by decide) ?_
      refine lv_icmp_ge (tgt := 160) hx hb dX3_goThrough_4 (by decide) (fun c_11 => ?_) (fun c_11 => ?_)
      · exact absurd ((kLe (a := 4) (b := sg) rfl rfl (by omega) (by omega)).mp c_11) (by omega)
      · have J21 : ∀ (v : Int32), v = nI (ixE en sg) → W p l e ({ frames := 4, cells := 0, slots := 0, locals := 96 }) s m args below meth c H locs 0 0 Q (kFr m 21 ls [.int v]) := by
          intro v ev
          subst ev
          refine STG (ixE en sg) (G (ixE en sg)) ((stg (tE x) en FF k f sg).2.1) ((stg (tE x) en FF k f sg).1 (ixE en sg)) ((stg (tE x) en FF k f sg).2.2) in1 M1 (nI sg) (ixE_lt hs4) (hGI.at hs4) (hg _ (ixE_lt hs4)) (by have q := hGI.2.2; omega) hGI.2.1 (fun M3 i1 hSO hq H locs ls hP hD hS hl => ?_) _ _ _ hP hD hS (lv_sub hl [0, 1, 2] rfl)
          refine lv_iinc (v := nI (sg + 1)) (lv' := [(2, .int (nI (sg + 1))), (0, .ref mq), (1, .int x)]) hx hb dX3_goThrough_154 hl (k := 2) rfl (nI_1 _) (by decide) rfl (fun ls hl => ?_)
          refine lv_goto (tgt := 2) hx hb dX3_goThrough_157 (by decide) ?_
          have eK : (stg (tE x) en FF k f (sg + 1)).2.1 = mNx M3 := hSO.2.1.symm
          have hP2 : va_P D vwCl [(mq, .inr (3, [.int fa, .ref ak, .ref ad, .int st, .int en, .int cm, .int fi, .ref ah, .ref am, .ref ap, .ref ag, .ref au, .ref ax, .ref al, .ref ai, .int (nI ((stg (tE x) en FF k f (sg + 1)).2.1)), .ref an, .int (nI (mNx M3)), .ref ao, .int (nI rn)])), (ah, .inl (cI, 64, .inl (mH M3))), (am, .inl (cI, 4, .inl (mM M3))), (ag, .inl (cI, 4, .inl (mG M3))), (au, .inl (cI, 4, .inl (mU M3))), (an, .inl (cI, 64, .inl (mN M3))), (ax, .inl (cI, 4, .inl (mX M3))), (al, .inl (cI, 4, .inl (mL M3))), (ap, .inl (cI, 128, .inl (mP M3))), (ad, .inl (cI, 4, .inl df)), (ak, .inl (cI, 4, .inl kf)), (ai, .inl (cI, 64, .inl i1)), (ao, .inl (cI, 2000, .inl of))] H := by rw [eK]; exact hP
          have hD2 : va_D A [(mq, .inr (3, [.int fa, .ref ak, .ref ad, .int st, .int en, .int cm, .int fi, .ref ah, .ref am, .ref ap, .ref ag, .ref au, .ref ax, .ref al, .ref ai, .int (nI ((stg (tE x) en FF k f (sg + 1)).2.1)), .ref an, .int (nI (mNx M3)), .ref ao, .int (nI rn)])), (ah, .inl (cI, 64, .inl (mH M3))), (am, .inl (cI, 4, .inl (mM M3))), (ag, .inl (cI, 4, .inl (mG M3))), (au, .inl (cI, 4, .inl (mU M3))), (an, .inl (cI, 64, .inl (mN M3))), (ax, .inl (cI, 4, .inl (mX M3))), (al, .inl (cI, 4, .inl (mL M3))), (ap, .inl (cI, 128, .inl (mP M3))), (ad, .inl (cI, 4, .inl df)), (ak, .inl (cI, 4, .inl kf)), (ai, .inl (cI, 64, .inl i1)), (ao, .inl (cI, 2000, .inl of))] := by rw [eK]; exact hD
          exact ih (sg + 1) M3 i1 (by omega) (hGI.next hs4 hSO hq) _ _ _ hP2 hD2 hS (lv_sub hl [1, 2, 0] rfl)
        refine lv_aload_n hx hb dX3_goThrough_7 rfl (lv_at hl 0 rfl) ?_
        refine va_get (D := D) (ci := 3) (v := .int en) (C := RX3) (T := TX3) (N := 20) hx hb hts inX3 hown hK hP 0 rfl rfl 4 (by decide) k_16 (fun _ h9 => h9) rfl dX3_goThrough_8 ?_
        refine lv_if_eq (tgt := 18) hx hb dX3_goThrough_11 (by decide) (fun c_12 => ?_) (fun c_12 => ?_)
        · refine lv_iconst (v := 3) hx hb dX3_goThrough_18 (by decide) ?_
          refine lv_iload_n hx hb dX3_goThrough_19 rfl (lv_at hl 2 rfl) ?_
          refine lv_isub hx hb dX3_goThrough_20 ?_
          exact J21 _ ((pk_sub (a := 3) (b := sg) (by omega)).trans (congrArg nI (if_pos c_12).symm))
        · refine lv_iload_n hx hb dX3_goThrough_14 rfl (lv_at hl 2 rfl) ?_
          refine lv_goto (tgt := 21) hx hb dX3_goThrough_15 (by decide) ?_
          exact J21 _ (congrArg nI (if_neg c_12).symm)
  exact loop 4 0 M inf (by omega) hGI _ _ _ hP hD hS (lv_sub hl [1, 2, 0] rfl)
