/-! BranchFilters: the calls that answer, and those that throw -/

set_option maxHeartbeats 4000000 in
set_option maxRecDepth 100000 in
/-- BranchFilters.filter(0, kk, dd) -/
theorem c_filter0 (l : Launch) (D : va_G) (cI cF cJ : ClassId) (nd : Nat) (bq ca q0 ro0 rb0 pa0 q1 ro1 rb1 pa1 q2 ro2 rb2 pa2 q3 ro3 rb3 pa3 mo mb re rs : Nat) (k rn : Nat) (st en fi cm : Int32) (F0 F1 F2 F3 : FS) (f rf : Nat → Int32) (kk : Nat) (dd : Int32) (hz : en = 0 ∨ en = 1) (hkk : kk < 8) (hd1 : ¬ dd < 1) (hd2 : dd ≤ 32) : kVG nd l yX2_filter wsX2_filter ({ frames := 3, cells := 0, slots := 0, locals := 64 }) D (kTy cI cF cJ) [.ref bq, .int 0, .int (nI kk), .int dd] [(bq, .inr (2, [.ref ca, .ref mo, .ref re, .int st, .int en, .int fi, .int cm])), (ca, .inl (cF, 4, .inr (.inr (.inr (.inr (ch4 q0 q1 q2 q3)))))), (q0, .inr (0, [.ref ro0, .ref pa0, .int (nI (fKn F0)), .int (fDs F0), .int (fEn F0), .int (fPl F0), .int (fHe F0), .int (fGv F0), .int (fRp F0), .int (fMk F0), .int (fLa F0)])), (ro0, .inr (1, [.ref rb0, .int (nI (fN F0))])), (rb0, .inl (cI, 64, .inl (fG F0))), (pa0, .inl (cI, 32, .inl (fPf F0))), (q1, .inr (0, [.ref ro1, .ref pa1, .int (nI (fKn F1)), .int (fDs F1), .int (fEn F1), .int (fPl F1), .int (fHe F1), .int (fGv F1), .int (fRp F1), .int (fMk F1), .int (fLa F1)])), (ro1, .inr (1, [.ref rb1, .int (nI (fN F1))])), (rb1, .inl (cI, 64, .inl (fG F1))), (pa1, .inl (cI, 32, .inl (fPf F1))), (q2, .inr (0, [.ref ro2, .ref pa2, .int (nI (fKn F2)), .int (fDs F2), .int (fEn F2), .int (fPl F2), .int (fHe F2), .int (fGv F2), .int (fRp F2), .int (fMk F2), .int (fLa F2)])), (ro2, .inr (1, [.ref rb2, .int (nI (fN F2))])), (rb2, .inl (cI, 64, .inl (fG F2))), (pa2, .inl (cI, 32, .inl (fPf F2))), (q3, .inr (0, [.ref ro3, .ref pa3, .int (nI (fKn F3)), .int (fDs F3), .int (fEn F3), .int (fPl F3), .int (fHe F3), .int (fGv F3), .int (fRp F3), .int (fMk F3), .int (fLa F3)])), (ro3, .inr (1, [.ref rb3, .int (nI (fN F3))])), (rb3, .inl (cI, 64, .inl (fG F3))), (pa3, .inl (cI, 32, .inl (fPf F3))), (mo, .inr (1, [.ref mb, .int (nI k)])), (mb, .inl (cI, 64, .inl f)), (re, .inr (1, [.ref rs, .int (nI rn)])), (rs, .inl (cI, 2000, .inl rf))] [(bq, .inr (2, [.ref ca, .ref mo, .ref re, .int st, .int en, .int 0, .int 0])), (ca, .inl (cF, 4, .inr (.inr (.inr (.inr (ch4 q0 q1 q2 q3)))))), (q0, .inr (0, [.ref ro0, .ref pa0, .int (nI (fKn (fRestart (fBecome F0 kk dd) st en))), .int (fDs (fRestart (fBecome F0 kk dd) st en)), .int (fEn (fRestart (fBecome F0 kk dd) st en)), .int (fPl (fRestart (fBecome F0 kk dd) st en)), .int (fHe (fRestart (fBecome F0 kk dd) st en)), .int (fGv (fRestart (fBecome F0 kk dd) st en)), .int (fRp (fRestart (fBecome F0 kk dd) st en)), .int (fMk (fRestart (fBecome F0 kk dd) st en)), .int (fLa (fRestart (fBecome F0 kk dd) st en))])), (ro0, .inr (1, [.ref rb0, .int (nI (fN (fRestart (fBecome F0 kk dd) st en)))])), (rb0, .inl (cI, 64, .inl (fG (fRestart (fBecome F0 kk dd) st en)))), (pa0, .inl (cI, 32, .inl (fPf (fRestart (fBecome F0 kk dd) st en)))), (q1, .inr (0, [.ref ro1, .ref pa1, .int (nI (fKn (fRestart F1 st en))), .int (fDs (fRestart F1 st en)), .int (fEn (fRestart F1 st en)), .int (fPl (fRestart F1 st en)), .int (fHe (fRestart F1 st en)), .int (fGv (fRestart F1 st en)), .int (fRp (fRestart F1 st en)), .int (fMk (fRestart F1 st en)), .int (fLa (fRestart F1 st en))])), (ro1, .inr (1, [.ref rb1, .int (nI (fN (fRestart F1 st en)))])), (rb1, .inl (cI, 64, .inl (fG (fRestart F1 st en)))), (pa1, .inl (cI, 32, .inl (fPf (fRestart F1 st en)))), (q2, .inr (0, [.ref ro2, .ref pa2, .int (nI (fKn (fRestart F2 st en))), .int (fDs (fRestart F2 st en)), .int (fEn (fRestart F2 st en)), .int (fPl (fRestart F2 st en)), .int (fHe (fRestart F2 st en)), .int (fGv (fRestart F2 st en)), .int (fRp (fRestart F2 st en)), .int (fMk (fRestart F2 st en)), .int (fLa (fRestart F2 st en))])), (ro2, .inr (1, [.ref rb2, .int (nI (fN (fRestart F2 st en)))])), (rb2, .inl (cI, 64, .inl (fG (fRestart F2 st en)))), (pa2, .inl (cI, 32, .inl (fPf (fRestart F2 st en)))), (q3, .inr (0, [.ref ro3, .ref pa3, .int (nI (fKn (fRestart F3 st en))), .int (fDs (fRestart F3 st en)), .int (fEn (fRestart F3 st en)), .int (fPl (fRestart F3 st en)), .int (fHe (fRestart F3 st en)), .int (fGv (fRestart F3 st en)), .int (fRp (fRestart F3 st en)), .int (fMk (fRestart F3 st en)), .int (fLa (fRestart F3 st en))])), (ro3, .inr (1, [.ref rb3, .int (nI (fN (fRestart F3 st en)))])), (rb3, .inl (cI, 64, .inl (fG (fRestart F3 st en)))), (pa3, .inl (cI, 32, .inl (fPf (fRestart F3 st en)))), (mo, .inr (1, [.ref mb, .int (nI k)])), (mb, .inl (cI, 64, .inl f)), (re, .inr (1, [.ref rs, .int (nI 0)])), (rs, .inl (cI, 2000, .inl rf))] := by
  refine kVG_of (cc := cX2_filter) (nL := 4) (own := RX2) (lv := [(0, .ref bq), (1, .int 0), (2, .int (nI kk)), (3, .int dd)]) (by decide) rfl rfl (Nat.le_of_ble_eq_true rfl) rfl ?_
  intro p e s m args below meth c A ls Q C hA hG hK hP hD hS hl hret
  obtain ⟨hx, hb, hr, hml, hown, hts, hlocks⟩ := C
  have k_11 := hts (.fieldLink RX2 11 "BranchFilters" "chain" "[LBranchFilters$Filter;") (by decide +kernel)
  have inX2 : ∀ w ∈ wsX20, w ∈ wsX2_filter := by decide +kernel
  refine lv_iload_n hx hb dX2_filter_0 rfl (lv_at hl 1 rfl) ?_
  refine lv_if_lt (tgt := 9) hx hb dX2_filter_1 (by decide) (fun c_1 => ?_) (fun c_1 => ?_)
  · exact absurd c_1 (by decide)
  · refine lv_iload_n hx hb dX2_filter_4 rfl (lv_at hl 1 rfl) ?_
    refine lv_iconst (v := 4) hx hb dX2_filter_5 (by decide) ?_
    refine lv_icmp_lt (tgt := 19) hx hb dX2_filter_6 (by decide) (fun c_2 => ?_) (fun c_2 => ?_)
    · refine lv_iload_n hx hb dX2_filter_19 rfl (lv_at hl 2 rfl) ?_
      refine lv_if_lt (tgt := 29) hx hb dX2_filter_20 (by decide) (fun c_3 => ?_) (fun c_3 => ?_)
      · exact absurd c_3 (nI_pos (by omega))
      · refine lv_iload_n hx hb dX2_filter_23 rfl (lv_at hl 2 rfl) ?_
        refine lv_bipush (v := 8) hx hb dX2_filter_24 (by decide) ?_
        refine lv_icmp_lt (tgt := 39) hx hb dX2_filter_26 (by decide) (fun c_4 => ?_) (fun c_4 => ?_)
        · refine lv_iload_n hx hb dX2_filter_39 rfl (lv_at hl 3 rfl) ?_
          refine lv_iconst (v := 1) hx hb dX2_filter_40 (by decide) ?_
          refine lv_icmp_lt (tgt := 50) hx hb dX2_filter_41 (by decide) (fun c_5 => ?_) (fun c_5 => ?_)
          · exact absurd c_5 hd1
          · refine lv_iload_n hx hb dX2_filter_44 rfl (lv_at hl 3 rfl) ?_
            refine lv_bipush (v := 32) hx hb dX2_filter_45 (by decide) ?_
            refine lv_icmp_le (tgt := 60) hx hb dX2_filter_47 (by decide) (fun c_6 => ?_) (fun c_6 => ?_)
            · refine lv_aload_n hx hb dX2_filter_60 rfl (lv_at hl 0 rfl) ?_
              refine va_get (D := D) (ci := 2) (v := .ref ca) (C := RX2) (T := TX2) (N := 7) hx hb hts inX2 hown hK hP 0 rfl rfl 0 (by decide) k_11 (fun _ h9 => h9) rfl dX2_filter_61 ?_
              refine lv_iload_n hx hb dX2_filter_64 rfl (lv_at hl 1 rfl) ?_
              refine kAald (k := 0) (b := q0) hx hb hK hP 1 1 rfl rfl (by decide) (by omega) (by omega) (rfl) dX2_filter_65 ?_
              refine lv_iload_n hx hb dX2_filter_66 rfl (lv_at hl 2 rfl) ?_
              refine lv_iload_n hx hb dX2_filter_67 rfl (lv_at hl 3 rfl) ?_
              refine kCallV (As := [.int (nI kk), .int dd]) (wc := [(q0, .inr (0, [.ref ro0, .ref pa0, .int (nI (fKn F0)), .int (fDs F0), .int (fEn F0), .int (fPl F0), .int (fHe F0), .int (fGv F0), .int (fRp F0), .int (fMk F0), .int (fLa F0)]))]) (wr := [(bq, .inr (2, [.ref ca, .ref mo, .ref re, .int st, .int en, .int fi, .int cm])), (ca, .inl (cF, 4, .inr (.inr (.inr (.inr (ch4 q0 q1 q2 q3)))))), (ro0, .inr (1, [.ref rb0, .int (nI (fN F0))])), (rb0, .inl (cI, 64, .inl (fG F0))), (pa0, .inl (cI, 32, .inl (fPf F0))), (q1, .inr (0, [.ref ro1, .ref pa1, .int (nI (fKn F1)), .int (fDs F1), .int (fEn F1), .int (fPl F1), .int (fHe F1), .int (fGv F1), .int (fRp F1), .int (fMk F1), .int (fLa F1)])), (ro1, .inr (1, [.ref rb1, .int (nI (fN F1))])), (rb1, .inl (cI, 64, .inl (fG F1))), (pa1, .inl (cI, 32, .inl (fPf F1))), (q2, .inr (0, [.ref ro2, .ref pa2, .int (nI (fKn F2)), .int (fDs F2), .int (fEn F2), .int (fPl F2), .int (fHe F2), .int (fGv F2), .int (fRp F2), .int (fMk F2), .int (fLa F2)])), (ro2, .inr (1, [.ref rb2, .int (nI (fN F2))])), (rb2, .inl (cI, 64, .inl (fG F2))), (pa2, .inl (cI, 32, .inl (fPf F2))), (q3, .inr (0, [.ref ro3, .ref pa3, .int (nI (fKn F3)), .int (fDs F3), .int (fEn F3), .int (fPl F3), .int (fHe F3), .int (fGv F3), .int (fRp F3), .int (fMk F3), .int (fLa F3)])), (ro3, .inr (1, [.ref rb3, .int (nI (fN F3))])), (rb3, .inl (cI, 64, .inl (fG F3))), (pa3, .inl (cI, 32, .inl (fPf F3))), (mo, .inr (1, [.ref mb, .int (nI k)])), (mb, .inl (cI, 64, .inl f)), (re, .inr (1, [.ref rs, .int (nI rn)])), (rs, .inl (cI, 2000, .inl rf))]) (ws' := [(bq, .inr (2, [.ref ca, .ref mo, .ref re, .int st, .int en, .int fi, .int cm])), (ca, .inl (cF, 4, .inr (.inr (.inr (.inr (ch4 q0 q1 q2 q3)))))), (q0, .inr (0, [.ref ro0, .ref pa0, .int (nI kk), .int dd, .int (fEn F0), .int (fPl F0), .int (fHe F0), .int (fGv F0), .int (fRp F0), .int (fMk F0), .int (fLa F0)])), (ro0, .inr (1, [.ref rb0, .int (nI (fN F0))])), (rb0, .inl (cI, 64, .inl (fG F0))), (pa0, .inl (cI, 32, .inl (fPf F0))), (q1, .inr (0, [.ref ro1, .ref pa1, .int (nI (fKn F1)), .int (fDs F1), .int (fEn F1), .int (fPl F1), .int (fHe F1), .int (fGv F1), .int (fRp F1), .int (fMk F1), .int (fLa F1)])), (ro1, .inr (1, [.ref rb1, .int (nI (fN F1))])), (rb1, .inl (cI, 64, .inl (fG F1))), (pa1, .inl (cI, 32, .inl (fPf F1))), (q2, .inr (0, [.ref ro2, .ref pa2, .int (nI (fKn F2)), .int (fDs F2), .int (fEn F2), .int (fPl F2), .int (fHe F2), .int (fGv F2), .int (fRp F2), .int (fMk F2), .int (fLa F2)])), (ro2, .inr (1, [.ref rb2, .int (nI (fN F2))])), (rb2, .inl (cI, 64, .inl (fG F2))), (pa2, .inl (cI, 32, .inl (fPf F2))), (q3, .inr (0, [.ref ro3, .ref pa3, .int (nI (fKn F3)), .int (fDs F3), .int (fEn F3), .int (fPl F3), .int (fHe F3), .int (fGv F3), .int (fRp F3), .int (fMk F3), .int (fLa F3)])), (ro3, .inr (1, [.ref rb3, .int (nI (fN F3))])), (rb3, .inl (cI, 64, .inl (fG F3))), (pa3, .inl (cI, 32, .inl (fPf F3))), (mo, .inr (1, [.ref mb, .int (nI k)])), (mb, .inl (cI, 64, .inl f)), (re, .inr (1, [.ref rs, .int (nI rn)])), (rs, .inl (cI, 2000, .inl rf))]) (ci := 0) (C := RX0) ⟨hx, hb, hml, hown, hts⟩ (c_X0_become l D cI cF cJ q0 ro0 pa0 (nI (fKn F0)) (fDs F0) (fEn F0) (fPl F0) (fHe F0) (fGv F0) (fRp F0) (fMk F0) (fLa F0) (nI kk) dd ) (cwV 2 hts gX2_filter_X0_become rfl rfl rfl (by decide +kernel) ⟨Nat.le_of_ble_eq_true rfl, Nat.le_of_ble_eq_true rfl⟩) hK hP hD hS hA [2] [0, 1, 3, 4, 5, 6, 7, 8, 9, 10, 11, 12, 13, 14, 15, 16, 17, 18, 19, 20, 21] [0, 1, 21, 2, 3, 4, 5, 6, 7, 8, 9, 10, 11, 12, 13, 14, 15, 16, 17, 18, 19, 20] rfl rfl rfl rfl (by decide) rfl rfl rfl rfl rfl hl.1 (Nat.le_of_ble_eq_true rfl) ⟨Nat.zero_le _, Nat.zero_le _⟩ dX2_filter_68 (fun H locs hP hD hS => ?_) rfl
              refine lv_aload_n hx hb dX2_filter_71 rfl (lv_at hl 0 rfl) ?_
              refine kCallV (As := []) (wc := [(bq, .inr (2, [.ref ca, .ref mo, .ref re, .int st, .int en, .int fi, .int cm])), (ca, .inl (cF, 4, .inr (.inr (.inr (.inr (ch4 q0 q1 q2 q3)))))), (q0, .inr (0, [.ref ro0, .ref pa0, .int (nI kk), .int dd, .int (fEn F0), .int (fPl F0), .int (fHe F0), .int (fGv F0), .int (fRp F0), .int (fMk F0), .int (fLa F0)])), (ro0, .inr (1, [.ref rb0, .int (nI (fN F0))])), (rb0, .inl (cI, 64, .inl (fG F0))), (pa0, .inl (cI, 32, .inl (fPf F0))), (q1, .inr (0, [.ref ro1, .ref pa1, .int (nI (fKn F1)), .int (fDs F1), .int (fEn F1), .int (fPl F1), .int (fHe F1), .int (fGv F1), .int (fRp F1), .int (fMk F1), .int (fLa F1)])), (ro1, .inr (1, [.ref rb1, .int (nI (fN F1))])), (rb1, .inl (cI, 64, .inl (fG F1))), (pa1, .inl (cI, 32, .inl (fPf F1))), (q2, .inr (0, [.ref ro2, .ref pa2, .int (nI (fKn F2)), .int (fDs F2), .int (fEn F2), .int (fPl F2), .int (fHe F2), .int (fGv F2), .int (fRp F2), .int (fMk F2), .int (fLa F2)])), (ro2, .inr (1, [.ref rb2, .int (nI (fN F2))])), (rb2, .inl (cI, 64, .inl (fG F2))), (pa2, .inl (cI, 32, .inl (fPf F2))), (q3, .inr (0, [.ref ro3, .ref pa3, .int (nI (fKn F3)), .int (fDs F3), .int (fEn F3), .int (fPl F3), .int (fHe F3), .int (fGv F3), .int (fRp F3), .int (fMk F3), .int (fLa F3)])), (ro3, .inr (1, [.ref rb3, .int (nI (fN F3))])), (rb3, .inl (cI, 64, .inl (fG F3))), (pa3, .inl (cI, 32, .inl (fPf F3))), (mo, .inr (1, [.ref mb, .int (nI k)])), (mb, .inl (cI, 64, .inl f)), (re, .inr (1, [.ref rs, .int (nI rn)])), (rs, .inl (cI, 2000, .inl rf))]) (wr := []) (ws' := [(bq, .inr (2, [.ref ca, .ref mo, .ref re, .int st, .int en, .int 0, .int 0])), (ca, .inl (cF, 4, .inr (.inr (.inr (.inr (ch4 q0 q1 q2 q3)))))), (q0, .inr (0, [.ref ro0, .ref pa0, .int (nI (fKn (fRestart (fBecome F0 kk dd) st en))), .int (fDs (fRestart (fBecome F0 kk dd) st en)), .int (fEn (fRestart (fBecome F0 kk dd) st en)), .int (fPl (fRestart (fBecome F0 kk dd) st en)), .int (fHe (fRestart (fBecome F0 kk dd) st en)), .int (fGv (fRestart (fBecome F0 kk dd) st en)), .int (fRp (fRestart (fBecome F0 kk dd) st en)), .int (fMk (fRestart (fBecome F0 kk dd) st en)), .int (fLa (fRestart (fBecome F0 kk dd) st en))])), (ro0, .inr (1, [.ref rb0, .int (nI (fN (fRestart (fBecome F0 kk dd) st en)))])), (rb0, .inl (cI, 64, .inl (fG (fRestart (fBecome F0 kk dd) st en)))), (pa0, .inl (cI, 32, .inl (fPf (fRestart (fBecome F0 kk dd) st en)))), (q1, .inr (0, [.ref ro1, .ref pa1, .int (nI (fKn (fRestart F1 st en))), .int (fDs (fRestart F1 st en)), .int (fEn (fRestart F1 st en)), .int (fPl (fRestart F1 st en)), .int (fHe (fRestart F1 st en)), .int (fGv (fRestart F1 st en)), .int (fRp (fRestart F1 st en)), .int (fMk (fRestart F1 st en)), .int (fLa (fRestart F1 st en))])), (ro1, .inr (1, [.ref rb1, .int (nI (fN (fRestart F1 st en)))])), (rb1, .inl (cI, 64, .inl (fG (fRestart F1 st en)))), (pa1, .inl (cI, 32, .inl (fPf (fRestart F1 st en)))), (q2, .inr (0, [.ref ro2, .ref pa2, .int (nI (fKn (fRestart F2 st en))), .int (fDs (fRestart F2 st en)), .int (fEn (fRestart F2 st en)), .int (fPl (fRestart F2 st en)), .int (fHe (fRestart F2 st en)), .int (fGv (fRestart F2 st en)), .int (fRp (fRestart F2 st en)), .int (fMk (fRestart F2 st en)), .int (fLa (fRestart F2 st en))])), (ro2, .inr (1, [.ref rb2, .int (nI (fN (fRestart F2 st en)))])), (rb2, .inl (cI, 64, .inl (fG (fRestart F2 st en)))), (pa2, .inl (cI, 32, .inl (fPf (fRestart F2 st en)))), (q3, .inr (0, [.ref ro3, .ref pa3, .int (nI (fKn (fRestart F3 st en))), .int (fDs (fRestart F3 st en)), .int (fEn (fRestart F3 st en)), .int (fPl (fRestart F3 st en)), .int (fHe (fRestart F3 st en)), .int (fGv (fRestart F3 st en)), .int (fRp (fRestart F3 st en)), .int (fMk (fRestart F3 st en)), .int (fLa (fRestart F3 st en))])), (ro3, .inr (1, [.ref rb3, .int (nI (fN (fRestart F3 st en)))])), (rb3, .inl (cI, 64, .inl (fG (fRestart F3 st en)))), (pa3, .inl (cI, 32, .inl (fPf (fRestart F3 st en)))), (mo, .inr (1, [.ref mb, .int (nI k)])), (mb, .inl (cI, 64, .inl f)), (re, .inr (1, [.ref rs, .int (nI 0)])), (rs, .inl (cI, 2000, .inl rf))]) (ci := 2) (C := RX2) ⟨hx, hb, hml, hown, hts⟩ (c_X2_beginAnew l D cI cF cJ bq ca q0 ro0 rb0 pa0 q1 ro1 rb1 pa1 q2 ro2 rb2 pa2 q3 ro3 rb3 pa3 mo mb re rs k rn st en fi cm (fBecome F0 kk dd) F1 F2 F3 f rf (hz)) (cwV 0 hts gX2_filter_X2_beginAnew rfl rfl rfl (by decide +kernel) ⟨Nat.le_of_ble_eq_true rfl, Nat.le_of_ble_eq_true rfl⟩) hK hP hD hS hA [0, 1, 2, 3, 4, 5, 6, 7, 8, 9, 10, 11, 12, 13, 14, 15, 16, 17, 18, 19, 20, 21] [] [0, 1, 2, 3, 4, 5, 6, 7, 8, 9, 10, 11, 12, 13, 14, 15, 16, 17, 18, 19, 20, 21] rfl rfl rfl rfl (by decide) rfl rfl rfl rfl rfl hl.1 (Nat.le_of_ble_eq_true rfl) ⟨Nat.zero_le _, Nat.zero_le _⟩ dX2_filter_72 (fun H locs hP hD hS => ?_) rfl
              exact hret _ _ _ _ dX2_filter_75 (hP) (hD) hS
            · exact absurd hd2 c_6
        · exact absurd ((kLt (b := 8) rfl rfl (by omega) (by omega)).mpr hkk) c_4
    · exact absurd c_2 (by decide)

set_option maxHeartbeats 4000000 in
set_option maxRecDepth 100000 in
/-- BranchFilters.filter(1, kk, dd) -/
theorem c_filter1 (l : Launch) (D : va_G) (cI cF cJ : ClassId) (nd : Nat) (bq ca q0 ro0 rb0 pa0 q1 ro1 rb1 pa1 q2 ro2 rb2 pa2 q3 ro3 rb3 pa3 mo mb re rs : Nat) (k rn : Nat) (st en fi cm : Int32) (F0 F1 F2 F3 : FS) (f rf : Nat → Int32) (kk : Nat) (dd : Int32) (hz : en = 0 ∨ en = 1) (hkk : kk < 8) (hd1 : ¬ dd < 1) (hd2 : dd ≤ 32) : kVG nd l yX2_filter wsX2_filter ({ frames := 3, cells := 0, slots := 0, locals := 64 }) D (kTy cI cF cJ) [.ref bq, .int 1, .int (nI kk), .int dd] [(bq, .inr (2, [.ref ca, .ref mo, .ref re, .int st, .int en, .int fi, .int cm])), (ca, .inl (cF, 4, .inr (.inr (.inr (.inr (ch4 q0 q1 q2 q3)))))), (q0, .inr (0, [.ref ro0, .ref pa0, .int (nI (fKn F0)), .int (fDs F0), .int (fEn F0), .int (fPl F0), .int (fHe F0), .int (fGv F0), .int (fRp F0), .int (fMk F0), .int (fLa F0)])), (ro0, .inr (1, [.ref rb0, .int (nI (fN F0))])), (rb0, .inl (cI, 64, .inl (fG F0))), (pa0, .inl (cI, 32, .inl (fPf F0))), (q1, .inr (0, [.ref ro1, .ref pa1, .int (nI (fKn F1)), .int (fDs F1), .int (fEn F1), .int (fPl F1), .int (fHe F1), .int (fGv F1), .int (fRp F1), .int (fMk F1), .int (fLa F1)])), (ro1, .inr (1, [.ref rb1, .int (nI (fN F1))])), (rb1, .inl (cI, 64, .inl (fG F1))), (pa1, .inl (cI, 32, .inl (fPf F1))), (q2, .inr (0, [.ref ro2, .ref pa2, .int (nI (fKn F2)), .int (fDs F2), .int (fEn F2), .int (fPl F2), .int (fHe F2), .int (fGv F2), .int (fRp F2), .int (fMk F2), .int (fLa F2)])), (ro2, .inr (1, [.ref rb2, .int (nI (fN F2))])), (rb2, .inl (cI, 64, .inl (fG F2))), (pa2, .inl (cI, 32, .inl (fPf F2))), (q3, .inr (0, [.ref ro3, .ref pa3, .int (nI (fKn F3)), .int (fDs F3), .int (fEn F3), .int (fPl F3), .int (fHe F3), .int (fGv F3), .int (fRp F3), .int (fMk F3), .int (fLa F3)])), (ro3, .inr (1, [.ref rb3, .int (nI (fN F3))])), (rb3, .inl (cI, 64, .inl (fG F3))), (pa3, .inl (cI, 32, .inl (fPf F3))), (mo, .inr (1, [.ref mb, .int (nI k)])), (mb, .inl (cI, 64, .inl f)), (re, .inr (1, [.ref rs, .int (nI rn)])), (rs, .inl (cI, 2000, .inl rf))] [(bq, .inr (2, [.ref ca, .ref mo, .ref re, .int st, .int en, .int 0, .int 0])), (ca, .inl (cF, 4, .inr (.inr (.inr (.inr (ch4 q0 q1 q2 q3)))))), (q0, .inr (0, [.ref ro0, .ref pa0, .int (nI (fKn (fRestart F0 st en))), .int (fDs (fRestart F0 st en)), .int (fEn (fRestart F0 st en)), .int (fPl (fRestart F0 st en)), .int (fHe (fRestart F0 st en)), .int (fGv (fRestart F0 st en)), .int (fRp (fRestart F0 st en)), .int (fMk (fRestart F0 st en)), .int (fLa (fRestart F0 st en))])), (ro0, .inr (1, [.ref rb0, .int (nI (fN (fRestart F0 st en)))])), (rb0, .inl (cI, 64, .inl (fG (fRestart F0 st en)))), (pa0, .inl (cI, 32, .inl (fPf (fRestart F0 st en)))), (q1, .inr (0, [.ref ro1, .ref pa1, .int (nI (fKn (fRestart (fBecome F1 kk dd) st en))), .int (fDs (fRestart (fBecome F1 kk dd) st en)), .int (fEn (fRestart (fBecome F1 kk dd) st en)), .int (fPl (fRestart (fBecome F1 kk dd) st en)), .int (fHe (fRestart (fBecome F1 kk dd) st en)), .int (fGv (fRestart (fBecome F1 kk dd) st en)), .int (fRp (fRestart (fBecome F1 kk dd) st en)), .int (fMk (fRestart (fBecome F1 kk dd) st en)), .int (fLa (fRestart (fBecome F1 kk dd) st en))])), (ro1, .inr (1, [.ref rb1, .int (nI (fN (fRestart (fBecome F1 kk dd) st en)))])), (rb1, .inl (cI, 64, .inl (fG (fRestart (fBecome F1 kk dd) st en)))), (pa1, .inl (cI, 32, .inl (fPf (fRestart (fBecome F1 kk dd) st en)))), (q2, .inr (0, [.ref ro2, .ref pa2, .int (nI (fKn (fRestart F2 st en))), .int (fDs (fRestart F2 st en)), .int (fEn (fRestart F2 st en)), .int (fPl (fRestart F2 st en)), .int (fHe (fRestart F2 st en)), .int (fGv (fRestart F2 st en)), .int (fRp (fRestart F2 st en)), .int (fMk (fRestart F2 st en)), .int (fLa (fRestart F2 st en))])), (ro2, .inr (1, [.ref rb2, .int (nI (fN (fRestart F2 st en)))])), (rb2, .inl (cI, 64, .inl (fG (fRestart F2 st en)))), (pa2, .inl (cI, 32, .inl (fPf (fRestart F2 st en)))), (q3, .inr (0, [.ref ro3, .ref pa3, .int (nI (fKn (fRestart F3 st en))), .int (fDs (fRestart F3 st en)), .int (fEn (fRestart F3 st en)), .int (fPl (fRestart F3 st en)), .int (fHe (fRestart F3 st en)), .int (fGv (fRestart F3 st en)), .int (fRp (fRestart F3 st en)), .int (fMk (fRestart F3 st en)), .int (fLa (fRestart F3 st en))])), (ro3, .inr (1, [.ref rb3, .int (nI (fN (fRestart F3 st en)))])), (rb3, .inl (cI, 64, .inl (fG (fRestart F3 st en)))), (pa3, .inl (cI, 32, .inl (fPf (fRestart F3 st en)))), (mo, .inr (1, [.ref mb, .int (nI k)])), (mb, .inl (cI, 64, .inl f)), (re, .inr (1, [.ref rs, .int (nI 0)])), (rs, .inl (cI, 2000, .inl rf))] := by
  refine kVG_of (cc := cX2_filter) (nL := 4) (own := RX2) (lv := [(0, .ref bq), (1, .int 1), (2, .int (nI kk)), (3, .int dd)]) (by decide) rfl rfl (Nat.le_of_ble_eq_true rfl) rfl ?_
  intro p e s m args below meth c A ls Q C hA hG hK hP hD hS hl hret
  obtain ⟨hx, hb, hr, hml, hown, hts, hlocks⟩ := C
  have k_11 := hts (.fieldLink RX2 11 "BranchFilters" "chain" "[LBranchFilters$Filter;") (by decide +kernel)
  have inX2 : ∀ w ∈ wsX20, w ∈ wsX2_filter := by decide +kernel
  refine lv_iload_n hx hb dX2_filter_0 rfl (lv_at hl 1 rfl) ?_
  refine lv_if_lt (tgt := 9) hx hb dX2_filter_1 (by decide) (fun c_1 => ?_) (fun c_1 => ?_)
  · exact absurd c_1 (by decide)
  · refine lv_iload_n hx hb dX2_filter_4 rfl (lv_at hl 1 rfl) ?_
    refine lv_iconst (v := 4) hx hb dX2_filter_5 (by decide) ?_
    refine lv_icmp_lt (tgt := 19) hx hb dX2_filter_6 (by decide) (fun c_2 => ?_) (fun c_2 => ?_)
    · refine lv_iload_n hx hb dX2_filter_19 rfl (lv_at hl 2 rfl) ?_
      refine lv_if_lt (tgt := 29) hx hb dX2_filter_20 (by decide) (fun c_3 => ?_) (fun c_3 => ?_)
      · exact absurd c_3 (nI_pos (by omega))
      · refine lv_iload_n hx hb dX2_filter_23 rfl (lv_at hl 2 rfl) ?_
        refine lv_bipush (v := 8) hx hb dX2_filter_24 (by decide) ?_
        refine lv_icmp_lt (tgt := 39) hx hb dX2_filter_26 (by decide) (fun c_4 => ?_) (fun c_4 => ?_)
        · refine lv_iload_n hx hb dX2_filter_39 rfl (lv_at hl 3 rfl) ?_
          refine lv_iconst (v := 1) hx hb dX2_filter_40 (by decide) ?_
          refine lv_icmp_lt (tgt := 50) hx hb dX2_filter_41 (by decide) (fun c_5 => ?_) (fun c_5 => ?_)
          · exact absurd c_5 hd1
          · refine lv_iload_n hx hb dX2_filter_44 rfl (lv_at hl 3 rfl) ?_
            refine lv_bipush (v := 32) hx hb dX2_filter_45 (by decide) ?_
            refine lv_icmp_le (tgt := 60) hx hb dX2_filter_47 (by decide) (fun c_6 => ?_) (fun c_6 => ?_)
            · refine lv_aload_n hx hb dX2_filter_60 rfl (lv_at hl 0 rfl) ?_
              refine va_get (D := D) (ci := 2) (v := .ref ca) (C := RX2) (T := TX2) (N := 7) hx hb hts inX2 hown hK hP 0 rfl rfl 0 (by decide) k_11 (fun _ h9 => h9) rfl dX2_filter_61 ?_
              refine lv_iload_n hx hb dX2_filter_64 rfl (lv_at hl 1 rfl) ?_
              refine kAald (k := 1) (b := q1) hx hb hK hP 1 1 rfl rfl (by decide) (by omega) (by omega) (rfl) dX2_filter_65 ?_
              refine lv_iload_n hx hb dX2_filter_66 rfl (lv_at hl 2 rfl) ?_
              refine lv_iload_n hx hb dX2_filter_67 rfl (lv_at hl 3 rfl) ?_
              refine kCallV (As := [.int (nI kk), .int dd]) (wc := [(q1, .inr (0, [.ref ro1, .ref pa1, .int (nI (fKn F1)), .int (fDs F1), .int (fEn F1), .int (fPl F1), .int (fHe F1), .int (fGv F1), .int (fRp F1), .int (fMk F1), .int (fLa F1)]))]) (wr := [(bq, .inr (2, [.ref ca, .ref mo, .ref re, .int st, .int en, .int fi, .int cm])), (ca, .inl (cF, 4, .inr (.inr (.inr (.inr (ch4 q0 q1 q2 q3)))))), (q0, .inr (0, [.ref ro0, .ref pa0, .int (nI (fKn F0)), .int (fDs F0), .int (fEn F0), .int (fPl F0), .int (fHe F0), .int (fGv F0), .int (fRp F0), .int (fMk F0), .int (fLa F0)])), (ro0, .inr (1, [.ref rb0, .int (nI (fN F0))])), (rb0, .inl (cI, 64, .inl (fG F0))), (pa0, .inl (cI, 32, .inl (fPf F0))), (ro1, .inr (1, [.ref rb1, .int (nI (fN F1))])), (rb1, .inl (cI, 64, .inl (fG F1))), (pa1, .inl (cI, 32, .inl (fPf F1))), (q2, .inr (0, [.ref ro2, .ref pa2, .int (nI (fKn F2)), .int (fDs F2), .int (fEn F2), .int (fPl F2), .int (fHe F2), .int (fGv F2), .int (fRp F2), .int (fMk F2), .int (fLa F2)])), (ro2, .inr (1, [.ref rb2, .int (nI (fN F2))])), (rb2, .inl (cI, 64, .inl (fG F2))), (pa2, .inl (cI, 32, .inl (fPf F2))), (q3, .inr (0, [.ref ro3, .ref pa3, .int (nI (fKn F3)), .int (fDs F3), .int (fEn F3), .int (fPl F3), .int (fHe F3), .int (fGv F3), .int (fRp F3), .int (fMk F3), .int (fLa F3)])), (ro3, .inr (1, [.ref rb3, .int (nI (fN F3))])), (rb3, .inl (cI, 64, .inl (fG F3))), (pa3, .inl (cI, 32, .inl (fPf F3))), (mo, .inr (1, [.ref mb, .int (nI k)])), (mb, .inl (cI, 64, .inl f)), (re, .inr (1, [.ref rs, .int (nI rn)])), (rs, .inl (cI, 2000, .inl rf))]) (ws' := [(bq, .inr (2, [.ref ca, .ref mo, .ref re, .int st, .int en, .int fi, .int cm])), (ca, .inl (cF, 4, .inr (.inr (.inr (.inr (ch4 q0 q1 q2 q3)))))), (q0, .inr (0, [.ref ro0, .ref pa0, .int (nI (fKn F0)), .int (fDs F0), .int (fEn F0), .int (fPl F0), .int (fHe F0), .int (fGv F0), .int (fRp F0), .int (fMk F0), .int (fLa F0)])), (ro0, .inr (1, [.ref rb0, .int (nI (fN F0))])), (rb0, .inl (cI, 64, .inl (fG F0))), (pa0, .inl (cI, 32, .inl (fPf F0))), (q1, .inr (0, [.ref ro1, .ref pa1, .int (nI kk), .int dd, .int (fEn F1), .int (fPl F1), .int (fHe F1), .int (fGv F1), .int (fRp F1), .int (fMk F1), .int (fLa F1)])), (ro1, .inr (1, [.ref rb1, .int (nI (fN F1))])), (rb1, .inl (cI, 64, .inl (fG F1))), (pa1, .inl (cI, 32, .inl (fPf F1))), (q2, .inr (0, [.ref ro2, .ref pa2, .int (nI (fKn F2)), .int (fDs F2), .int (fEn F2), .int (fPl F2), .int (fHe F2), .int (fGv F2), .int (fRp F2), .int (fMk F2), .int (fLa F2)])), (ro2, .inr (1, [.ref rb2, .int (nI (fN F2))])), (rb2, .inl (cI, 64, .inl (fG F2))), (pa2, .inl (cI, 32, .inl (fPf F2))), (q3, .inr (0, [.ref ro3, .ref pa3, .int (nI (fKn F3)), .int (fDs F3), .int (fEn F3), .int (fPl F3), .int (fHe F3), .int (fGv F3), .int (fRp F3), .int (fMk F3), .int (fLa F3)])), (ro3, .inr (1, [.ref rb3, .int (nI (fN F3))])), (rb3, .inl (cI, 64, .inl (fG F3))), (pa3, .inl (cI, 32, .inl (fPf F3))), (mo, .inr (1, [.ref mb, .int (nI k)])), (mb, .inl (cI, 64, .inl f)), (re, .inr (1, [.ref rs, .int (nI rn)])), (rs, .inl (cI, 2000, .inl rf))]) (ci := 0) (C := RX0) ⟨hx, hb, hml, hown, hts⟩ (c_X0_become l D cI cF cJ q1 ro1 pa1 (nI (fKn F1)) (fDs F1) (fEn F1) (fPl F1) (fHe F1) (fGv F1) (fRp F1) (fMk F1) (fLa F1) (nI kk) dd ) (cwV 2 hts gX2_filter_X0_become rfl rfl rfl (by decide +kernel) ⟨Nat.le_of_ble_eq_true rfl, Nat.le_of_ble_eq_true rfl⟩) hK hP hD hS hA [6] [0, 1, 2, 3, 4, 5, 7, 8, 9, 10, 11, 12, 13, 14, 15, 16, 17, 18, 19, 20, 21] [0, 1, 2, 3, 4, 5, 21, 6, 7, 8, 9, 10, 11, 12, 13, 14, 15, 16, 17, 18, 19, 20] rfl rfl rfl rfl (by decide) rfl rfl rfl rfl rfl hl.1 (Nat.le_of_ble_eq_true rfl) ⟨Nat.zero_le _, Nat.zero_le _⟩ dX2_filter_68 (fun H locs hP hD hS => ?_) rfl
              refine lv_aload_n hx hb dX2_filter_71 rfl (lv_at hl 0 rfl) ?_
              refine kCallV (As := []) (wc := [(bq, .inr (2, [.ref ca, .ref mo, .ref re, .int st, .int en, .int fi, .int cm])), (ca, .inl (cF, 4, .inr (.inr (.inr (.inr (ch4 q0 q1 q2 q3)))))), (q0, .inr (0, [.ref ro0, .ref pa0, .int (nI (fKn F0)), .int (fDs F0), .int (fEn F0), .int (fPl F0), .int (fHe F0), .int (fGv F0), .int (fRp F0), .int (fMk F0), .int (fLa F0)])), (ro0, .inr (1, [.ref rb0, .int (nI (fN F0))])), (rb0, .inl (cI, 64, .inl (fG F0))), (pa0, .inl (cI, 32, .inl (fPf F0))), (q1, .inr (0, [.ref ro1, .ref pa1, .int (nI kk), .int dd, .int (fEn F1), .int (fPl F1), .int (fHe F1), .int (fGv F1), .int (fRp F1), .int (fMk F1), .int (fLa F1)])), (ro1, .inr (1, [.ref rb1, .int (nI (fN F1))])), (rb1, .inl (cI, 64, .inl (fG F1))), (pa1, .inl (cI, 32, .inl (fPf F1))), (q2, .inr (0, [.ref ro2, .ref pa2, .int (nI (fKn F2)), .int (fDs F2), .int (fEn F2), .int (fPl F2), .int (fHe F2), .int (fGv F2), .int (fRp F2), .int (fMk F2), .int (fLa F2)])), (ro2, .inr (1, [.ref rb2, .int (nI (fN F2))])), (rb2, .inl (cI, 64, .inl (fG F2))), (pa2, .inl (cI, 32, .inl (fPf F2))), (q3, .inr (0, [.ref ro3, .ref pa3, .int (nI (fKn F3)), .int (fDs F3), .int (fEn F3), .int (fPl F3), .int (fHe F3), .int (fGv F3), .int (fRp F3), .int (fMk F3), .int (fLa F3)])), (ro3, .inr (1, [.ref rb3, .int (nI (fN F3))])), (rb3, .inl (cI, 64, .inl (fG F3))), (pa3, .inl (cI, 32, .inl (fPf F3))), (mo, .inr (1, [.ref mb, .int (nI k)])), (mb, .inl (cI, 64, .inl f)), (re, .inr (1, [.ref rs, .int (nI rn)])), (rs, .inl (cI, 2000, .inl rf))]) (wr := []) (ws' := [(bq, .inr (2, [.ref ca, .ref mo, .ref re, .int st, .int en, .int 0, .int 0])), (ca, .inl (cF, 4, .inr (.inr (.inr (.inr (ch4 q0 q1 q2 q3)))))), (q0, .inr (0, [.ref ro0, .ref pa0, .int (nI (fKn (fRestart F0 st en))), .int (fDs (fRestart F0 st en)), .int (fEn (fRestart F0 st en)), .int (fPl (fRestart F0 st en)), .int (fHe (fRestart F0 st en)), .int (fGv (fRestart F0 st en)), .int (fRp (fRestart F0 st en)), .int (fMk (fRestart F0 st en)), .int (fLa (fRestart F0 st en))])), (ro0, .inr (1, [.ref rb0, .int (nI (fN (fRestart F0 st en)))])), (rb0, .inl (cI, 64, .inl (fG (fRestart F0 st en)))), (pa0, .inl (cI, 32, .inl (fPf (fRestart F0 st en)))), (q1, .inr (0, [.ref ro1, .ref pa1, .int (nI (fKn (fRestart (fBecome F1 kk dd) st en))), .int (fDs (fRestart (fBecome F1 kk dd) st en)), .int (fEn (fRestart (fBecome F1 kk dd) st en)), .int (fPl (fRestart (fBecome F1 kk dd) st en)), .int (fHe (fRestart (fBecome F1 kk dd) st en)), .int (fGv (fRestart (fBecome F1 kk dd) st en)), .int (fRp (fRestart (fBecome F1 kk dd) st en)), .int (fMk (fRestart (fBecome F1 kk dd) st en)), .int (fLa (fRestart (fBecome F1 kk dd) st en))])), (ro1, .inr (1, [.ref rb1, .int (nI (fN (fRestart (fBecome F1 kk dd) st en)))])), (rb1, .inl (cI, 64, .inl (fG (fRestart (fBecome F1 kk dd) st en)))), (pa1, .inl (cI, 32, .inl (fPf (fRestart (fBecome F1 kk dd) st en)))), (q2, .inr (0, [.ref ro2, .ref pa2, .int (nI (fKn (fRestart F2 st en))), .int (fDs (fRestart F2 st en)), .int (fEn (fRestart F2 st en)), .int (fPl (fRestart F2 st en)), .int (fHe (fRestart F2 st en)), .int (fGv (fRestart F2 st en)), .int (fRp (fRestart F2 st en)), .int (fMk (fRestart F2 st en)), .int (fLa (fRestart F2 st en))])), (ro2, .inr (1, [.ref rb2, .int (nI (fN (fRestart F2 st en)))])), (rb2, .inl (cI, 64, .inl (fG (fRestart F2 st en)))), (pa2, .inl (cI, 32, .inl (fPf (fRestart F2 st en)))), (q3, .inr (0, [.ref ro3, .ref pa3, .int (nI (fKn (fRestart F3 st en))), .int (fDs (fRestart F3 st en)), .int (fEn (fRestart F3 st en)), .int (fPl (fRestart F3 st en)), .int (fHe (fRestart F3 st en)), .int (fGv (fRestart F3 st en)), .int (fRp (fRestart F3 st en)), .int (fMk (fRestart F3 st en)), .int (fLa (fRestart F3 st en))])), (ro3, .inr (1, [.ref rb3, .int (nI (fN (fRestart F3 st en)))])), (rb3, .inl (cI, 64, .inl (fG (fRestart F3 st en)))), (pa3, .inl (cI, 32, .inl (fPf (fRestart F3 st en)))), (mo, .inr (1, [.ref mb, .int (nI k)])), (mb, .inl (cI, 64, .inl f)), (re, .inr (1, [.ref rs, .int (nI 0)])), (rs, .inl (cI, 2000, .inl rf))]) (ci := 2) (C := RX2) ⟨hx, hb, hml, hown, hts⟩ (c_X2_beginAnew l D cI cF cJ bq ca q0 ro0 rb0 pa0 q1 ro1 rb1 pa1 q2 ro2 rb2 pa2 q3 ro3 rb3 pa3 mo mb re rs k rn st en fi cm F0 (fBecome F1 kk dd) F2 F3 f rf (hz)) (cwV 0 hts gX2_filter_X2_beginAnew rfl rfl rfl (by decide +kernel) ⟨Nat.le_of_ble_eq_true rfl, Nat.le_of_ble_eq_true rfl⟩) hK hP hD hS hA [0, 1, 2, 3, 4, 5, 6, 7, 8, 9, 10, 11, 12, 13, 14, 15, 16, 17, 18, 19, 20, 21] [] [0, 1, 2, 3, 4, 5, 6, 7, 8, 9, 10, 11, 12, 13, 14, 15, 16, 17, 18, 19, 20, 21] rfl rfl rfl rfl (by decide) rfl rfl rfl rfl rfl hl.1 (Nat.le_of_ble_eq_true rfl) ⟨Nat.zero_le _, Nat.zero_le _⟩ dX2_filter_72 (fun H locs hP hD hS => ?_) rfl
              exact hret _ _ _ _ dX2_filter_75 (hP) (hD) hS
            · exact absurd hd2 c_6
        · exact absurd ((kLt (b := 8) rfl rfl (by omega) (by omega)).mpr hkk) c_4
    · exact absurd c_2 (by decide)

set_option maxHeartbeats 4000000 in
set_option maxRecDepth 100000 in
/-- BranchFilters.filter(2, kk, dd) -/
theorem c_filter2 (l : Launch) (D : va_G) (cI cF cJ : ClassId) (nd : Nat) (bq ca q0 ro0 rb0 pa0 q1 ro1 rb1 pa1 q2 ro2 rb2 pa2 q3 ro3 rb3 pa3 mo mb re rs : Nat) (k rn : Nat) (st en fi cm : Int32) (F0 F1 F2 F3 : FS) (f rf : Nat → Int32) (kk : Nat) (dd : Int32) (hz : en = 0 ∨ en = 1) (hkk : kk < 8) (hd1 : ¬ dd < 1) (hd2 : dd ≤ 32) : kVG nd l yX2_filter wsX2_filter ({ frames := 3, cells := 0, slots := 0, locals := 64 }) D (kTy cI cF cJ) [.ref bq, .int 2, .int (nI kk), .int dd] [(bq, .inr (2, [.ref ca, .ref mo, .ref re, .int st, .int en, .int fi, .int cm])), (ca, .inl (cF, 4, .inr (.inr (.inr (.inr (ch4 q0 q1 q2 q3)))))), (q0, .inr (0, [.ref ro0, .ref pa0, .int (nI (fKn F0)), .int (fDs F0), .int (fEn F0), .int (fPl F0), .int (fHe F0), .int (fGv F0), .int (fRp F0), .int (fMk F0), .int (fLa F0)])), (ro0, .inr (1, [.ref rb0, .int (nI (fN F0))])), (rb0, .inl (cI, 64, .inl (fG F0))), (pa0, .inl (cI, 32, .inl (fPf F0))), (q1, .inr (0, [.ref ro1, .ref pa1, .int (nI (fKn F1)), .int (fDs F1), .int (fEn F1), .int (fPl F1), .int (fHe F1), .int (fGv F1), .int (fRp F1), .int (fMk F1), .int (fLa F1)])), (ro1, .inr (1, [.ref rb1, .int (nI (fN F1))])), (rb1, .inl (cI, 64, .inl (fG F1))), (pa1, .inl (cI, 32, .inl (fPf F1))), (q2, .inr (0, [.ref ro2, .ref pa2, .int (nI (fKn F2)), .int (fDs F2), .int (fEn F2), .int (fPl F2), .int (fHe F2), .int (fGv F2), .int (fRp F2), .int (fMk F2), .int (fLa F2)])), (ro2, .inr (1, [.ref rb2, .int (nI (fN F2))])), (rb2, .inl (cI, 64, .inl (fG F2))), (pa2, .inl (cI, 32, .inl (fPf F2))), (q3, .inr (0, [.ref ro3, .ref pa3, .int (nI (fKn F3)), .int (fDs F3), .int (fEn F3), .int (fPl F3), .int (fHe F3), .int (fGv F3), .int (fRp F3), .int (fMk F3), .int (fLa F3)])), (ro3, .inr (1, [.ref rb3, .int (nI (fN F3))])), (rb3, .inl (cI, 64, .inl (fG F3))), (pa3, .inl (cI, 32, .inl (fPf F3))), (mo, .inr (1, [.ref mb, .int (nI k)])), (mb, .inl (cI, 64, .inl f)), (re, .inr (1, [.ref rs, .int (nI rn)])), (rs, .inl (cI, 2000, .inl rf))] [(bq, .inr (2, [.ref ca, .ref mo, .ref re, .int st, .int en, .int 0, .int 0])), (ca, .inl (cF, 4, .inr (.inr (.inr (.inr (ch4 q0 q1 q2 q3)))))), (q0, .inr (0, [.ref ro0, .ref pa0, .int (nI (fKn (fRestart F0 st en))), .int (fDs (fRestart F0 st en)), .int (fEn (fRestart F0 st en)), .int (fPl (fRestart F0 st en)), .int (fHe (fRestart F0 st en)), .int (fGv (fRestart F0 st en)), .int (fRp (fRestart F0 st en)), .int (fMk (fRestart F0 st en)), .int (fLa (fRestart F0 st en))])), (ro0, .inr (1, [.ref rb0, .int (nI (fN (fRestart F0 st en)))])), (rb0, .inl (cI, 64, .inl (fG (fRestart F0 st en)))), (pa0, .inl (cI, 32, .inl (fPf (fRestart F0 st en)))), (q1, .inr (0, [.ref ro1, .ref pa1, .int (nI (fKn (fRestart F1 st en))), .int (fDs (fRestart F1 st en)), .int (fEn (fRestart F1 st en)), .int (fPl (fRestart F1 st en)), .int (fHe (fRestart F1 st en)), .int (fGv (fRestart F1 st en)), .int (fRp (fRestart F1 st en)), .int (fMk (fRestart F1 st en)), .int (fLa (fRestart F1 st en))])), (ro1, .inr (1, [.ref rb1, .int (nI (fN (fRestart F1 st en)))])), (rb1, .inl (cI, 64, .inl (fG (fRestart F1 st en)))), (pa1, .inl (cI, 32, .inl (fPf (fRestart F1 st en)))), (q2, .inr (0, [.ref ro2, .ref pa2, .int (nI (fKn (fRestart (fBecome F2 kk dd) st en))), .int (fDs (fRestart (fBecome F2 kk dd) st en)), .int (fEn (fRestart (fBecome F2 kk dd) st en)), .int (fPl (fRestart (fBecome F2 kk dd) st en)), .int (fHe (fRestart (fBecome F2 kk dd) st en)), .int (fGv (fRestart (fBecome F2 kk dd) st en)), .int (fRp (fRestart (fBecome F2 kk dd) st en)), .int (fMk (fRestart (fBecome F2 kk dd) st en)), .int (fLa (fRestart (fBecome F2 kk dd) st en))])), (ro2, .inr (1, [.ref rb2, .int (nI (fN (fRestart (fBecome F2 kk dd) st en)))])), (rb2, .inl (cI, 64, .inl (fG (fRestart (fBecome F2 kk dd) st en)))), (pa2, .inl (cI, 32, .inl (fPf (fRestart (fBecome F2 kk dd) st en)))), (q3, .inr (0, [.ref ro3, .ref pa3, .int (nI (fKn (fRestart F3 st en))), .int (fDs (fRestart F3 st en)), .int (fEn (fRestart F3 st en)), .int (fPl (fRestart F3 st en)), .int (fHe (fRestart F3 st en)), .int (fGv (fRestart F3 st en)), .int (fRp (fRestart F3 st en)), .int (fMk (fRestart F3 st en)), .int (fLa (fRestart F3 st en))])), (ro3, .inr (1, [.ref rb3, .int (nI (fN (fRestart F3 st en)))])), (rb3, .inl (cI, 64, .inl (fG (fRestart F3 st en)))), (pa3, .inl (cI, 32, .inl (fPf (fRestart F3 st en)))), (mo, .inr (1, [.ref mb, .int (nI k)])), (mb, .inl (cI, 64, .inl f)), (re, .inr (1, [.ref rs, .int (nI 0)])), (rs, .inl (cI, 2000, .inl rf))] := by
  refine kVG_of (cc := cX2_filter) (nL := 4) (own := RX2) (lv := [(0, .ref bq), (1, .int 2), (2, .int (nI kk)), (3, .int dd)]) (by decide) rfl rfl (Nat.le_of_ble_eq_true rfl) rfl ?_
  intro p e s m args below meth c A ls Q C hA hG hK hP hD hS hl hret
  obtain ⟨hx, hb, hr, hml, hown, hts, hlocks⟩ := C
  have k_11 := hts (.fieldLink RX2 11 "BranchFilters" "chain" "[LBranchFilters$Filter;") (by decide +kernel)
  have inX2 : ∀ w ∈ wsX20, w ∈ wsX2_filter := by decide +kernel
  refine lv_iload_n hx hb dX2_filter_0 rfl (lv_at hl 1 rfl) ?_
  refine lv_if_lt (tgt := 9) hx hb dX2_filter_1 (by decide) (fun c_1 => ?_) (fun c_1 => ?_)
  · exact absurd c_1 (by decide)
  · refine lv_iload_n hx hb dX2_filter_4 rfl (lv_at hl 1 rfl) ?_
    refine lv_iconst (v := 4) hx hb dX2_filter_5 (by decide) ?_
    refine lv_icmp_lt (tgt := 19) hx hb dX2_filter_6 (by decide) (fun c_2 => ?_) (fun c_2 => ?_)
    · refine lv_iload_n hx hb dX2_filter_19 rfl (lv_at hl 2 rfl) ?_
      refine lv_if_lt (tgt := 29) hx hb dX2_filter_20 (by decide) (fun c_3 => ?_) (fun c_3 => ?_)
      · exact absurd c_3 (nI_pos (by omega))
      · refine lv_iload_n hx hb dX2_filter_23 rfl (lv_at hl 2 rfl) ?_
        refine lv_bipush (v := 8) hx hb dX2_filter_24 (by decide) ?_
        refine lv_icmp_lt (tgt := 39) hx hb dX2_filter_26 (by decide) (fun c_4 => ?_) (fun c_4 => ?_)
        · refine lv_iload_n hx hb dX2_filter_39 rfl (lv_at hl 3 rfl) ?_
          refine lv_iconst (v := 1) hx hb dX2_filter_40 (by decide) ?_
          refine lv_icmp_lt (tgt := 50) hx hb dX2_filter_41 (by decide) (fun c_5 => ?_) (fun c_5 => ?_)
          · exact absurd c_5 hd1
          · refine lv_iload_n hx hb dX2_filter_44 rfl (lv_at hl 3 rfl) ?_
            refine lv_bipush (v := 32) hx hb dX2_filter_45 (by decide) ?_
            refine lv_icmp_le (tgt := 60) hx hb dX2_filter_47 (by decide) (fun c_6 => ?_) (fun c_6 => ?_)
            · refine lv_aload_n hx hb dX2_filter_60 rfl (lv_at hl 0 rfl) ?_
              refine va_get (D := D) (ci := 2) (v := .ref ca) (C := RX2) (T := TX2) (N := 7) hx hb hts inX2 hown hK hP 0 rfl rfl 0 (by decide) k_11 (fun _ h9 => h9) rfl dX2_filter_61 ?_
              refine lv_iload_n hx hb dX2_filter_64 rfl (lv_at hl 1 rfl) ?_
              refine kAald (k := 2) (b := q2) hx hb hK hP 1 1 rfl rfl (by decide) (by omega) (by omega) (rfl) dX2_filter_65 ?_
              refine lv_iload_n hx hb dX2_filter_66 rfl (lv_at hl 2 rfl) ?_
              refine lv_iload_n hx hb dX2_filter_67 rfl (lv_at hl 3 rfl) ?_
              refine kCallV (As := [.int (nI kk), .int dd]) (wc := [(q2, .inr (0, [.ref ro2, .ref pa2, .int (nI (fKn F2)), .int (fDs F2), .int (fEn F2), .int (fPl F2), .int (fHe F2), .int (fGv F2), .int (fRp F2), .int (fMk F2), .int (fLa F2)]))]) (wr := [(bq, .inr (2, [.ref ca, .ref mo, .ref re, .int st, .int en, .int fi, .int cm])), (ca, .inl (cF, 4, .inr (.inr (.inr (.inr (ch4 q0 q1 q2 q3)))))), (q0, .inr (0, [.ref ro0, .ref pa0, .int (nI (fKn F0)), .int (fDs F0), .int (fEn F0), .int (fPl F0), .int (fHe F0), .int (fGv F0), .int (fRp F0), .int (fMk F0), .int (fLa F0)])), (ro0, .inr (1, [.ref rb0, .int (nI (fN F0))])), (rb0, .inl (cI, 64, .inl (fG F0))), (pa0, .inl (cI, 32, .inl (fPf F0))), (q1, .inr (0, [.ref ro1, .ref pa1, .int (nI (fKn F1)), .int (fDs F1), .int (fEn F1), .int (fPl F1), .int (fHe F1), .int (fGv F1), .int (fRp F1), .int (fMk F1), .int (fLa F1)])), (ro1, .inr (1, [.ref rb1, .int (nI (fN F1))])), (rb1, .inl (cI, 64, .inl (fG F1))), (pa1, .inl (cI, 32, .inl (fPf F1))), (ro2, .inr (1, [.ref rb2, .int (nI (fN F2))])), (rb2, .inl (cI, 64, .inl (fG F2))), (pa2, .inl (cI, 32, .inl (fPf F2))), (q3, .inr (0, [.ref ro3, .ref pa3, .int (nI (fKn F3)), .int (fDs F3), .int (fEn F3), .int (fPl F3), .int (fHe F3), .int (fGv F3), .int (fRp F3), .int (fMk F3), .int (fLa F3)])), (ro3, .inr (1, [.ref rb3, .int (nI (fN F3))])), (rb3, .inl (cI, 64, .inl (fG F3))), (pa3, .inl (cI, 32, .inl (fPf F3))), (mo, .inr (1, [.ref mb, .int (nI k)])), (mb, .inl (cI, 64, .inl f)), (re, .inr (1, [.ref rs, .int (nI rn)])), (rs, .inl (cI, 2000, .inl rf))]) (ws' := [(bq, .inr (2, [.ref ca, .ref mo, .ref re, .int st, .int en, .int fi, .int cm])), (ca, .inl (cF, 4, .inr (.inr (.inr (.inr (ch4 q0 q1 q2 q3)))))), (q0, .inr (0, [.ref ro0, .ref pa0, .int (nI (fKn F0)), .int (fDs F0), .int (fEn F0), .int (fPl F0), .int (fHe F0), .int (fGv F0), .int (fRp F0), .int (fMk F0), .int (fLa F0)])), (ro0, .inr (1, [.ref rb0, .int (nI (fN F0))])), (rb0, .inl (cI, 64, .inl (fG F0))), (pa0, .inl (cI, 32, .inl (fPf F0))), (q1, .inr (0, [.ref ro1, .ref pa1, .int (nI (fKn F1)), .int (fDs F1), .int (fEn F1), .int (fPl F1), .int (fHe F1), .int (fGv F1), .int (fRp F1), .int (fMk F1), .int (fLa F1)])), (ro1, .inr (1, [.ref rb1, .int (nI (fN F1))])), (rb1, .inl (cI, 64, .inl (fG F1))), (pa1, .inl (cI, 32, .inl (fPf F1))), (q2, .inr (0, [.ref ro2, .ref pa2, .int (nI kk), .int dd, .int (fEn F2), .int (fPl F2), .int (fHe F2), .int (fGv F2), .int (fRp F2), .int (fMk F2), .int (fLa F2)])), (ro2, .inr (1, [.ref rb2, .int (nI (fN F2))])), (rb2, .inl (cI, 64, .inl (fG F2))), (pa2, .inl (cI, 32, .inl (fPf F2))), (q3, .inr (0, [.ref ro3, .ref pa3, .int (nI (fKn F3)), .int (fDs F3), .int (fEn F3), .int (fPl F3), .int (fHe F3), .int (fGv F3), .int (fRp F3), .int (fMk F3), .int (fLa F3)])), (ro3, .inr (1, [.ref rb3, .int (nI (fN F3))])), (rb3, .inl (cI, 64, .inl (fG F3))), (pa3, .inl (cI, 32, .inl (fPf F3))), (mo, .inr (1, [.ref mb, .int (nI k)])), (mb, .inl (cI, 64, .inl f)), (re, .inr (1, [.ref rs, .int (nI rn)])), (rs, .inl (cI, 2000, .inl rf))]) (ci := 0) (C := RX0) ⟨hx, hb, hml, hown, hts⟩ (c_X0_become l D cI cF cJ q2 ro2 pa2 (nI (fKn F2)) (fDs F2) (fEn F2) (fPl F2) (fHe F2) (fGv F2) (fRp F2) (fMk F2) (fLa F2) (nI kk) dd ) (cwV 2 hts gX2_filter_X0_become rfl rfl rfl (by decide +kernel) ⟨Nat.le_of_ble_eq_true rfl, Nat.le_of_ble_eq_true rfl⟩) hK hP hD hS hA [10] [0, 1, 2, 3, 4, 5, 6, 7, 8, 9, 11, 12, 13, 14, 15, 16, 17, 18, 19, 20, 21] [0, 1, 2, 3, 4, 5, 6, 7, 8, 9, 21, 10, 11, 12, 13, 14, 15, 16, 17, 18, 19, 20] rfl rfl rfl rfl (by decide) rfl rfl rfl rfl rfl hl.1 (Nat.le_of_ble_eq_true rfl) ⟨Nat.zero_le _, Nat.zero_le _⟩ dX2_filter_68 (fun H locs hP hD hS => ?_) rfl
              refine lv_aload_n hx hb dX2_filter_71 rfl (lv_at hl 0 rfl) ?_
              refine kCallV (As := []) (wc := [(bq, .inr (2, [.ref ca, .ref mo, .ref re, .int st, .int en, .int fi, .int cm])), (ca, .inl (cF, 4, .inr (.inr (.inr (.inr (ch4 q0 q1 q2 q3)))))), (q0, .inr (0, [.ref ro0, .ref pa0, .int (nI (fKn F0)), .int (fDs F0), .int (fEn F0), .int (fPl F0), .int (fHe F0), .int (fGv F0), .int (fRp F0), .int (fMk F0), .int (fLa F0)])), (ro0, .inr (1, [.ref rb0, .int (nI (fN F0))])), (rb0, .inl (cI, 64, .inl (fG F0))), (pa0, .inl (cI, 32, .inl (fPf F0))), (q1, .inr (0, [.ref ro1, .ref pa1, .int (nI (fKn F1)), .int (fDs F1), .int (fEn F1), .int (fPl F1), .int (fHe F1), .int (fGv F1), .int (fRp F1), .int (fMk F1), .int (fLa F1)])), (ro1, .inr (1, [.ref rb1, .int (nI (fN F1))])), (rb1, .inl (cI, 64, .inl (fG F1))), (pa1, .inl (cI, 32, .inl (fPf F1))), (q2, .inr (0, [.ref ro2, .ref pa2, .int (nI kk), .int dd, .int (fEn F2), .int (fPl F2), .int (fHe F2), .int (fGv F2), .int (fRp F2), .int (fMk F2), .int (fLa F2)])), (ro2, .inr (1, [.ref rb2, .int (nI (fN F2))])), (rb2, .inl (cI, 64, .inl (fG F2))), (pa2, .inl (cI, 32, .inl (fPf F2))), (q3, .inr (0, [.ref ro3, .ref pa3, .int (nI (fKn F3)), .int (fDs F3), .int (fEn F3), .int (fPl F3), .int (fHe F3), .int (fGv F3), .int (fRp F3), .int (fMk F3), .int (fLa F3)])), (ro3, .inr (1, [.ref rb3, .int (nI (fN F3))])), (rb3, .inl (cI, 64, .inl (fG F3))), (pa3, .inl (cI, 32, .inl (fPf F3))), (mo, .inr (1, [.ref mb, .int (nI k)])), (mb, .inl (cI, 64, .inl f)), (re, .inr (1, [.ref rs, .int (nI rn)])), (rs, .inl (cI, 2000, .inl rf))]) (wr := []) (ws' := [(bq, .inr (2, [.ref ca, .ref mo, .ref re, .int st, .int en, .int 0, .int 0])), (ca, .inl (cF, 4, .inr (.inr (.inr (.inr (ch4 q0 q1 q2 q3)))))), (q0, .inr (0, [.ref ro0, .ref pa0, .int (nI (fKn (fRestart F0 st en))), .int (fDs (fRestart F0 st en)), .int (fEn (fRestart F0 st en)), .int (fPl (fRestart F0 st en)), .int (fHe (fRestart F0 st en)), .int (fGv (fRestart F0 st en)), .int (fRp (fRestart F0 st en)), .int (fMk (fRestart F0 st en)), .int (fLa (fRestart F0 st en))])), (ro0, .inr (1, [.ref rb0, .int (nI (fN (fRestart F0 st en)))])), (rb0, .inl (cI, 64, .inl (fG (fRestart F0 st en)))), (pa0, .inl (cI, 32, .inl (fPf (fRestart F0 st en)))), (q1, .inr (0, [.ref ro1, .ref pa1, .int (nI (fKn (fRestart F1 st en))), .int (fDs (fRestart F1 st en)), .int (fEn (fRestart F1 st en)), .int (fPl (fRestart F1 st en)), .int (fHe (fRestart F1 st en)), .int (fGv (fRestart F1 st en)), .int (fRp (fRestart F1 st en)), .int (fMk (fRestart F1 st en)), .int (fLa (fRestart F1 st en))])), (ro1, .inr (1, [.ref rb1, .int (nI (fN (fRestart F1 st en)))])), (rb1, .inl (cI, 64, .inl (fG (fRestart F1 st en)))), (pa1, .inl (cI, 32, .inl (fPf (fRestart F1 st en)))), (q2, .inr (0, [.ref ro2, .ref pa2, .int (nI (fKn (fRestart (fBecome F2 kk dd) st en))), .int (fDs (fRestart (fBecome F2 kk dd) st en)), .int (fEn (fRestart (fBecome F2 kk dd) st en)), .int (fPl (fRestart (fBecome F2 kk dd) st en)), .int (fHe (fRestart (fBecome F2 kk dd) st en)), .int (fGv (fRestart (fBecome F2 kk dd) st en)), .int (fRp (fRestart (fBecome F2 kk dd) st en)), .int (fMk (fRestart (fBecome F2 kk dd) st en)), .int (fLa (fRestart (fBecome F2 kk dd) st en))])), (ro2, .inr (1, [.ref rb2, .int (nI (fN (fRestart (fBecome F2 kk dd) st en)))])), (rb2, .inl (cI, 64, .inl (fG (fRestart (fBecome F2 kk dd) st en)))), (pa2, .inl (cI, 32, .inl (fPf (fRestart (fBecome F2 kk dd) st en)))), (q3, .inr (0, [.ref ro3, .ref pa3, .int (nI (fKn (fRestart F3 st en))), .int (fDs (fRestart F3 st en)), .int (fEn (fRestart F3 st en)), .int (fPl (fRestart F3 st en)), .int (fHe (fRestart F3 st en)), .int (fGv (fRestart F3 st en)), .int (fRp (fRestart F3 st en)), .int (fMk (fRestart F3 st en)), .int (fLa (fRestart F3 st en))])), (ro3, .inr (1, [.ref rb3, .int (nI (fN (fRestart F3 st en)))])), (rb3, .inl (cI, 64, .inl (fG (fRestart F3 st en)))), (pa3, .inl (cI, 32, .inl (fPf (fRestart F3 st en)))), (mo, .inr (1, [.ref mb, .int (nI k)])), (mb, .inl (cI, 64, .inl f)), (re, .inr (1, [.ref rs, .int (nI 0)])), (rs, .inl (cI, 2000, .inl rf))]) (ci := 2) (C := RX2) ⟨hx, hb, hml, hown, hts⟩ (c_X2_beginAnew l D cI cF cJ bq ca q0 ro0 rb0 pa0 q1 ro1 rb1 pa1 q2 ro2 rb2 pa2 q3 ro3 rb3 pa3 mo mb re rs k rn st en fi cm F0 F1 (fBecome F2 kk dd) F3 f rf (hz)) (cwV 0 hts gX2_filter_X2_beginAnew rfl rfl rfl (by decide +kernel) ⟨Nat.le_of_ble_eq_true rfl, Nat.le_of_ble_eq_true rfl⟩) hK hP hD hS hA [0, 1, 2, 3, 4, 5, 6, 7, 8, 9, 10, 11, 12, 13, 14, 15, 16, 17, 18, 19, 20, 21] [] [0, 1, 2, 3, 4, 5, 6, 7, 8, 9, 10, 11, 12, 13, 14, 15, 16, 17, 18, 19, 20, 21] rfl rfl rfl rfl (by decide) rfl rfl rfl rfl rfl hl.1 (Nat.le_of_ble_eq_true rfl) ⟨Nat.zero_le _, Nat.zero_le _⟩ dX2_filter_72 (fun H locs hP hD hS => ?_) rfl
              exact hret _ _ _ _ dX2_filter_75 (hP) (hD) hS
            · exact absurd hd2 c_6
        · exact absurd ((kLt (b := 8) rfl rfl (by omega) (by omega)).mpr hkk) c_4
    · exact absurd c_2 (by decide)

set_option maxHeartbeats 4000000 in
set_option maxRecDepth 100000 in
/-- BranchFilters.filter(3, kk, dd) -/
theorem c_filter3 (l : Launch) (D : va_G) (cI cF cJ : ClassId) (nd : Nat) (bq ca q0 ro0 rb0 pa0 q1 ro1 rb1 pa1 q2 ro2 rb2 pa2 q3 ro3 rb3 pa3 mo mb re rs : Nat) (k rn : Nat) (st en fi cm : Int32) (F0 F1 F2 F3 : FS) (f rf : Nat → Int32) (kk : Nat) (dd : Int32) (hz : en = 0 ∨ en = 1) (hkk : kk < 8) (hd1 : ¬ dd < 1) (hd2 : dd ≤ 32) : kVG nd l yX2_filter wsX2_filter ({ frames := 3, cells := 0, slots := 0, locals := 64 }) D (kTy cI cF cJ) [.ref bq, .int 3, .int (nI kk), .int dd] [(bq, .inr (2, [.ref ca, .ref mo, .ref re, .int st, .int en, .int fi, .int cm])), (ca, .inl (cF, 4, .inr (.inr (.inr (.inr (ch4 q0 q1 q2 q3)))))), (q0, .inr (0, [.ref ro0, .ref pa0, .int (nI (fKn F0)), .int (fDs F0), .int (fEn F0), .int (fPl F0), .int (fHe F0), .int (fGv F0), .int (fRp F0), .int (fMk F0), .int (fLa F0)])), (ro0, .inr (1, [.ref rb0, .int (nI (fN F0))])), (rb0, .inl (cI, 64, .inl (fG F0))), (pa0, .inl (cI, 32, .inl (fPf F0))), (q1, .inr (0, [.ref ro1, .ref pa1, .int (nI (fKn F1)), .int (fDs F1), .int (fEn F1), .int (fPl F1), .int (fHe F1), .int (fGv F1), .int (fRp F1), .int (fMk F1), .int (fLa F1)])), (ro1, .inr (1, [.ref rb1, .int (nI (fN F1))])), (rb1, .inl (cI, 64, .inl (fG F1))), (pa1, .inl (cI, 32, .inl (fPf F1))), (q2, .inr (0, [.ref ro2, .ref pa2, .int (nI (fKn F2)), .int (fDs F2), .int (fEn F2), .int (fPl F2), .int (fHe F2), .int (fGv F2), .int (fRp F2), .int (fMk F2), .int (fLa F2)])), (ro2, .inr (1, [.ref rb2, .int (nI (fN F2))])), (rb2, .inl (cI, 64, .inl (fG F2))), (pa2, .inl (cI, 32, .inl (fPf F2))), (q3, .inr (0, [.ref ro3, .ref pa3, .int (nI (fKn F3)), .int (fDs F3), .int (fEn F3), .int (fPl F3), .int (fHe F3), .int (fGv F3), .int (fRp F3), .int (fMk F3), .int (fLa F3)])), (ro3, .inr (1, [.ref rb3, .int (nI (fN F3))])), (rb3, .inl (cI, 64, .inl (fG F3))), (pa3, .inl (cI, 32, .inl (fPf F3))), (mo, .inr (1, [.ref mb, .int (nI k)])), (mb, .inl (cI, 64, .inl f)), (re, .inr (1, [.ref rs, .int (nI rn)])), (rs, .inl (cI, 2000, .inl rf))] [(bq, .inr (2, [.ref ca, .ref mo, .ref re, .int st, .int en, .int 0, .int 0])), (ca, .inl (cF, 4, .inr (.inr (.inr (.inr (ch4 q0 q1 q2 q3)))))), (q0, .inr (0, [.ref ro0, .ref pa0, .int (nI (fKn (fRestart F0 st en))), .int (fDs (fRestart F0 st en)), .int (fEn (fRestart F0 st en)), .int (fPl (fRestart F0 st en)), .int (fHe (fRestart F0 st en)), .int (fGv (fRestart F0 st en)), .int (fRp (fRestart F0 st en)), .int (fMk (fRestart F0 st en)), .int (fLa (fRestart F0 st en))])), (ro0, .inr (1, [.ref rb0, .int (nI (fN (fRestart F0 st en)))])), (rb0, .inl (cI, 64, .inl (fG (fRestart F0 st en)))), (pa0, .inl (cI, 32, .inl (fPf (fRestart F0 st en)))), (q1, .inr (0, [.ref ro1, .ref pa1, .int (nI (fKn (fRestart F1 st en))), .int (fDs (fRestart F1 st en)), .int (fEn (fRestart F1 st en)), .int (fPl (fRestart F1 st en)), .int (fHe (fRestart F1 st en)), .int (fGv (fRestart F1 st en)), .int (fRp (fRestart F1 st en)), .int (fMk (fRestart F1 st en)), .int (fLa (fRestart F1 st en))])), (ro1, .inr (1, [.ref rb1, .int (nI (fN (fRestart F1 st en)))])), (rb1, .inl (cI, 64, .inl (fG (fRestart F1 st en)))), (pa1, .inl (cI, 32, .inl (fPf (fRestart F1 st en)))), (q2, .inr (0, [.ref ro2, .ref pa2, .int (nI (fKn (fRestart F2 st en))), .int (fDs (fRestart F2 st en)), .int (fEn (fRestart F2 st en)), .int (fPl (fRestart F2 st en)), .int (fHe (fRestart F2 st en)), .int (fGv (fRestart F2 st en)), .int (fRp (fRestart F2 st en)), .int (fMk (fRestart F2 st en)), .int (fLa (fRestart F2 st en))])), (ro2, .inr (1, [.ref rb2, .int (nI (fN (fRestart F2 st en)))])), (rb2, .inl (cI, 64, .inl (fG (fRestart F2 st en)))), (pa2, .inl (cI, 32, .inl (fPf (fRestart F2 st en)))), (q3, .inr (0, [.ref ro3, .ref pa3, .int (nI (fKn (fRestart (fBecome F3 kk dd) st en))), .int (fDs (fRestart (fBecome F3 kk dd) st en)), .int (fEn (fRestart (fBecome F3 kk dd) st en)), .int (fPl (fRestart (fBecome F3 kk dd) st en)), .int (fHe (fRestart (fBecome F3 kk dd) st en)), .int (fGv (fRestart (fBecome F3 kk dd) st en)), .int (fRp (fRestart (fBecome F3 kk dd) st en)), .int (fMk (fRestart (fBecome F3 kk dd) st en)), .int (fLa (fRestart (fBecome F3 kk dd) st en))])), (ro3, .inr (1, [.ref rb3, .int (nI (fN (fRestart (fBecome F3 kk dd) st en)))])), (rb3, .inl (cI, 64, .inl (fG (fRestart (fBecome F3 kk dd) st en)))), (pa3, .inl (cI, 32, .inl (fPf (fRestart (fBecome F3 kk dd) st en)))), (mo, .inr (1, [.ref mb, .int (nI k)])), (mb, .inl (cI, 64, .inl f)), (re, .inr (1, [.ref rs, .int (nI 0)])), (rs, .inl (cI, 2000, .inl rf))] := by
  refine kVG_of (cc := cX2_filter) (nL := 4) (own := RX2) (lv := [(0, .ref bq), (1, .int 3), (2, .int (nI kk)), (3, .int dd)]) (by decide) rfl rfl (Nat.le_of_ble_eq_true rfl) rfl ?_
  intro p e s m args below meth c A ls Q C hA hG hK hP hD hS hl hret
  obtain ⟨hx, hb, hr, hml, hown, hts, hlocks⟩ := C
  have k_11 := hts (.fieldLink RX2 11 "BranchFilters" "chain" "[LBranchFilters$Filter;") (by decide +kernel)
  have inX2 : ∀ w ∈ wsX20, w ∈ wsX2_filter := by decide +kernel
  refine lv_iload_n hx hb dX2_filter_0 rfl (lv_at hl 1 rfl) ?_
  refine lv_if_lt (tgt := 9) hx hb dX2_filter_1 (by decide) (fun c_1 => ?_) (fun c_1 => ?_)
  · exact absurd c_1 (by decide)
  · refine lv_iload_n hx hb dX2_filter_4 rfl (lv_at hl 1 rfl) ?_
    refine lv_iconst (v := 4) hx hb dX2_filter_5 (by decide) ?_
    refine lv_icmp_lt (tgt := 19) hx hb dX2_filter_6 (by decide) (fun c_2 => ?_) (fun c_2 => ?_)
    · refine lv_iload_n hx hb dX2_filter_19 rfl (lv_at hl 2 rfl) ?_
      refine lv_if_lt (tgt := 29) hx hb dX2_filter_20 (by decide) (fun c_3 => ?_) (fun c_3 => ?_)
      · exact absurd c_3 (nI_pos (by omega))
      · refine lv_iload_n hx hb dX2_filter_23 rfl (lv_at hl 2 rfl) ?_
        refine lv_bipush (v := 8) hx hb dX2_filter_24 (by decide) ?_
        refine lv_icmp_lt (tgt := 39) hx hb dX2_filter_26 (by decide) (fun c_4 => ?_) (fun c_4 => ?_)
        · refine lv_iload_n hx hb dX2_filter_39 rfl (lv_at hl 3 rfl) ?_
          refine lv_iconst (v := 1) hx hb dX2_filter_40 (by decide) ?_
          refine lv_icmp_lt (tgt := 50) hx hb dX2_filter_41 (by decide) (fun c_5 => ?_) (fun c_5 => ?_)
          · exact absurd c_5 hd1
          · refine lv_iload_n hx hb dX2_filter_44 rfl (lv_at hl 3 rfl) ?_
            refine lv_bipush (v := 32) hx hb dX2_filter_45 (by decide) ?_
            refine lv_icmp_le (tgt := 60) hx hb dX2_filter_47 (by decide) (fun c_6 => ?_) (fun c_6 => ?_)
            · refine lv_aload_n hx hb dX2_filter_60 rfl (lv_at hl 0 rfl) ?_
              refine va_get (D := D) (ci := 2) (v := .ref ca) (C := RX2) (T := TX2) (N := 7) hx hb hts inX2 hown hK hP 0 rfl rfl 0 (by decide) k_11 (fun _ h9 => h9) rfl dX2_filter_61 ?_
              refine lv_iload_n hx hb dX2_filter_64 rfl (lv_at hl 1 rfl) ?_
              refine kAald (k := 3) (b := q3) hx hb hK hP 1 1 rfl rfl (by decide) (by omega) (by omega) (rfl) dX2_filter_65 ?_
              refine lv_iload_n hx hb dX2_filter_66 rfl (lv_at hl 2 rfl) ?_
              refine lv_iload_n hx hb dX2_filter_67 rfl (lv_at hl 3 rfl) ?_
              refine kCallV (As := [.int (nI kk), .int dd]) (wc := [(q3, .inr (0, [.ref ro3, .ref pa3, .int (nI (fKn F3)), .int (fDs F3), .int (fEn F3), .int (fPl F3), .int (fHe F3), .int (fGv F3), .int (fRp F3), .int (fMk F3), .int (fLa F3)]))]) (wr := [(bq, .inr (2, [.ref ca, .ref mo, .ref re, .int st, .int en, .int fi, .int cm])), (ca, .inl (cF, 4, .inr (.inr (.inr (.inr (ch4 q0 q1 q2 q3)))))), (q0, .inr (0, [.ref ro0, .ref pa0, .int (nI (fKn F0)), .int (fDs F0), .int (fEn F0), .int (fPl F0), .int (fHe F0), .int (fGv F0), .int (fRp F0), .int (fMk F0), .int (fLa F0)])), (ro0, .inr (1, [.ref rb0, .int (nI (fN F0))])), (rb0, .inl (cI, 64, .inl (fG F0))), (pa0, .inl (cI, 32, .inl (fPf F0))), (q1, .inr (0, [.ref ro1, .ref pa1, .int (nI (fKn F1)), .int (fDs F1), .int (fEn F1), .int (fPl F1), .int (fHe F1), .int (fGv F1), .int (fRp F1), .int (fMk F1), .int (fLa F1)])), (ro1, .inr (1, [.ref rb1, .int (nI (fN F1))])), (rb1, .inl (cI, 64, .inl (fG F1))), (pa1, .inl (cI, 32, .inl (fPf F1))), (q2, .inr (0, [.ref ro2, .ref pa2, .int (nI (fKn F2)), .int (fDs F2), .int (fEn F2), .int (fPl F2), .int (fHe F2), .int (fGv F2), .int (fRp F2), .int (fMk F2), .int (fLa F2)])), (ro2, .inr (1, [.ref rb2, .int (nI (fN F2))])), (rb2, .inl (cI, 64, .inl (fG F2))), (pa2, .inl (cI, 32, .inl (fPf F2))), (ro3, .inr (1, [.ref rb3, .int (nI (fN F3))])), (rb3, .inl (cI, 64, .inl (fG F3))), (pa3, .inl (cI, 32, .inl (fPf F3))), (mo, .inr (1, [.ref mb, .int (nI k)])), (mb, .inl (cI, 64, .inl f)), (re, .inr (1, [.ref rs, .int (nI rn)])), (rs, .inl (cI, 2000, .inl rf))]) (ws' := [(bq, .inr (2, [.ref ca, .ref mo, .ref re, .int st, .int en, .int fi, .int cm])), (ca, .inl (cF, 4, .inr (.inr (.inr (.inr (ch4 q0 q1 q2 q3)))))), (q0, .inr (0, [.ref ro0, .ref pa0, .int (nI (fKn F0)), .int (fDs F0), .int (fEn F0), .int (fPl F0), .int (fHe F0), .int (fGv F0), .int (fRp F0), .int (fMk F0), .int (fLa F0)])), (ro0, .inr (1, [.ref rb0, .int (nI (fN F0))])), (rb0, .inl (cI, 64, .inl (fG F0))), (pa0, .inl (cI, 32, .inl (fPf F0))), (q1, .inr (0, [.ref ro1, .ref pa1, .int (nI (fKn F1)), .int (fDs F1), .int (fEn F1), .int (fPl F1), .int (fHe F1), .int (fGv F1), .int (fRp F1), .int (fMk F1), .int (fLa F1)])), (ro1, .inr (1, [.ref rb1, .int (nI (fN F1))])), (rb1, .inl (cI, 64, .inl (fG F1))), (pa1, .inl (cI, 32, .inl (fPf F1))), (q2, .inr (0, [.ref ro2, .ref pa2, .int (nI (fKn F2)), .int (fDs F2), .int (fEn F2), .int (fPl F2), .int (fHe F2), .int (fGv F2), .int (fRp F2), .int (fMk F2), .int (fLa F2)])), (ro2, .inr (1, [.ref rb2, .int (nI (fN F2))])), (rb2, .inl (cI, 64, .inl (fG F2))), (pa2, .inl (cI, 32, .inl (fPf F2))), (q3, .inr (0, [.ref ro3, .ref pa3, .int (nI kk), .int dd, .int (fEn F3), .int (fPl F3), .int (fHe F3), .int (fGv F3), .int (fRp F3), .int (fMk F3), .int (fLa F3)])), (ro3, .inr (1, [.ref rb3, .int (nI (fN F3))])), (rb3, .inl (cI, 64, .inl (fG F3))), (pa3, .inl (cI, 32, .inl (fPf F3))), (mo, .inr (1, [.ref mb, .int (nI k)])), (mb, .inl (cI, 64, .inl f)), (re, .inr (1, [.ref rs, .int (nI rn)])), (rs, .inl (cI, 2000, .inl rf))]) (ci := 0) (C := RX0) ⟨hx, hb, hml, hown, hts⟩ (c_X0_become l D cI cF cJ q3 ro3 pa3 (nI (fKn F3)) (fDs F3) (fEn F3) (fPl F3) (fHe F3) (fGv F3) (fRp F3) (fMk F3) (fLa F3) (nI kk) dd ) (cwV 2 hts gX2_filter_X0_become rfl rfl rfl (by decide +kernel) ⟨Nat.le_of_ble_eq_true rfl, Nat.le_of_ble_eq_true rfl⟩) hK hP hD hS hA [14] [0, 1, 2, 3, 4, 5, 6, 7, 8, 9, 10, 11, 12, 13, 15, 16, 17, 18, 19, 20, 21] [0, 1, 2, 3, 4, 5, 6, 7, 8, 9, 10, 11, 12, 13, 21, 14, 15, 16, 17, 18, 19, 20] rfl rfl rfl rfl (by decide) rfl rfl rfl rfl rfl hl.1 (Nat.le_of_ble_eq_true rfl) ⟨Nat.zero_le _, Nat.zero_le _⟩ dX2_filter_68 (fun H locs hP hD hS => ?_) rfl
              refine lv_aload_n hx hb dX2_filter_71 rfl (lv_at hl 0 rfl) ?_
              refine kCallV (As := []) (wc := [(bq, .inr (2, [.ref ca, .ref mo, .ref re, .int st, .int en, .int fi, .int cm])), (ca, .inl (cF, 4, .inr (.inr (.inr (.inr (ch4 q0 q1 q2 q3)))))), (q0, .inr (0, [.ref ro0, .ref pa0, .int (nI (fKn F0)), .int (fDs F0), .int (fEn F0), .int (fPl F0), .int (fHe F0), .int (fGv F0), .int (fRp F0), .int (fMk F0), .int (fLa F0)])), (ro0, .inr (1, [.ref rb0, .int (nI (fN F0))])), (rb0, .inl (cI, 64, .inl (fG F0))), (pa0, .inl (cI, 32, .inl (fPf F0))), (q1, .inr (0, [.ref ro1, .ref pa1, .int (nI (fKn F1)), .int (fDs F1), .int (fEn F1), .int (fPl F1), .int (fHe F1), .int (fGv F1), .int (fRp F1), .int (fMk F1), .int (fLa F1)])), (ro1, .inr (1, [.ref rb1, .int (nI (fN F1))])), (rb1, .inl (cI, 64, .inl (fG F1))), (pa1, .inl (cI, 32, .inl (fPf F1))), (q2, .inr (0, [.ref ro2, .ref pa2, .int (nI (fKn F2)), .int (fDs F2), .int (fEn F2), .int (fPl F2), .int (fHe F2), .int (fGv F2), .int (fRp F2), .int (fMk F2), .int (fLa F2)])), (ro2, .inr (1, [.ref rb2, .int (nI (fN F2))])), (rb2, .inl (cI, 64, .inl (fG F2))), (pa2, .inl (cI, 32, .inl (fPf F2))), (q3, .inr (0, [.ref ro3, .ref pa3, .int (nI kk), .int dd, .int (fEn F3), .int (fPl F3), .int (fHe F3), .int (fGv F3), .int (fRp F3), .int (fMk F3), .int (fLa F3)])), (ro3, .inr (1, [.ref rb3, .int (nI (fN F3))])), (rb3, .inl (cI, 64, .inl (fG F3))), (pa3, .inl (cI, 32, .inl (fPf F3))), (mo, .inr (1, [.ref mb, .int (nI k)])), (mb, .inl (cI, 64, .inl f)), (re, .inr (1, [.ref rs, .int (nI rn)])), (rs, .inl (cI, 2000, .inl rf))]) (wr := []) (ws' := [(bq, .inr (2, [.ref ca, .ref mo, .ref re, .int st, .int en, .int 0, .int 0])), (ca, .inl (cF, 4, .inr (.inr (.inr (.inr (ch4 q0 q1 q2 q3)))))), (q0, .inr (0, [.ref ro0, .ref pa0, .int (nI (fKn (fRestart F0 st en))), .int (fDs (fRestart F0 st en)), .int (fEn (fRestart F0 st en)), .int (fPl (fRestart F0 st en)), .int (fHe (fRestart F0 st en)), .int (fGv (fRestart F0 st en)), .int (fRp (fRestart F0 st en)), .int (fMk (fRestart F0 st en)), .int (fLa (fRestart F0 st en))])), (ro0, .inr (1, [.ref rb0, .int (nI (fN (fRestart F0 st en)))])), (rb0, .inl (cI, 64, .inl (fG (fRestart F0 st en)))), (pa0, .inl (cI, 32, .inl (fPf (fRestart F0 st en)))), (q1, .inr (0, [.ref ro1, .ref pa1, .int (nI (fKn (fRestart F1 st en))), .int (fDs (fRestart F1 st en)), .int (fEn (fRestart F1 st en)), .int (fPl (fRestart F1 st en)), .int (fHe (fRestart F1 st en)), .int (fGv (fRestart F1 st en)), .int (fRp (fRestart F1 st en)), .int (fMk (fRestart F1 st en)), .int (fLa (fRestart F1 st en))])), (ro1, .inr (1, [.ref rb1, .int (nI (fN (fRestart F1 st en)))])), (rb1, .inl (cI, 64, .inl (fG (fRestart F1 st en)))), (pa1, .inl (cI, 32, .inl (fPf (fRestart F1 st en)))), (q2, .inr (0, [.ref ro2, .ref pa2, .int (nI (fKn (fRestart F2 st en))), .int (fDs (fRestart F2 st en)), .int (fEn (fRestart F2 st en)), .int (fPl (fRestart F2 st en)), .int (fHe (fRestart F2 st en)), .int (fGv (fRestart F2 st en)), .int (fRp (fRestart F2 st en)), .int (fMk (fRestart F2 st en)), .int (fLa (fRestart F2 st en))])), (ro2, .inr (1, [.ref rb2, .int (nI (fN (fRestart F2 st en)))])), (rb2, .inl (cI, 64, .inl (fG (fRestart F2 st en)))), (pa2, .inl (cI, 32, .inl (fPf (fRestart F2 st en)))), (q3, .inr (0, [.ref ro3, .ref pa3, .int (nI (fKn (fRestart (fBecome F3 kk dd) st en))), .int (fDs (fRestart (fBecome F3 kk dd) st en)), .int (fEn (fRestart (fBecome F3 kk dd) st en)), .int (fPl (fRestart (fBecome F3 kk dd) st en)), .int (fHe (fRestart (fBecome F3 kk dd) st en)), .int (fGv (fRestart (fBecome F3 kk dd) st en)), .int (fRp (fRestart (fBecome F3 kk dd) st en)), .int (fMk (fRestart (fBecome F3 kk dd) st en)), .int (fLa (fRestart (fBecome F3 kk dd) st en))])), (ro3, .inr (1, [.ref rb3, .int (nI (fN (fRestart (fBecome F3 kk dd) st en)))])), (rb3, .inl (cI, 64, .inl (fG (fRestart (fBecome F3 kk dd) st en)))), (pa3, .inl (cI, 32, .inl (fPf (fRestart (fBecome F3 kk dd) st en)))), (mo, .inr (1, [.ref mb, .int (nI k)])), (mb, .inl (cI, 64, .inl f)), (re, .inr (1, [.ref rs, .int (nI 0)])), (rs, .inl (cI, 2000, .inl rf))]) (ci := 2) (C := RX2) ⟨hx, hb, hml, hown, hts⟩ (c_X2_beginAnew l D cI cF cJ bq ca q0 ro0 rb0 pa0 q1 ro1 rb1 pa1 q2 ro2 rb2 pa2 q3 ro3 rb3 pa3 mo mb re rs k rn st en fi cm F0 F1 F2 (fBecome F3 kk dd) f rf (hz)) (cwV 0 hts gX2_filter_X2_beginAnew rfl rfl rfl (by decide +kernel) ⟨Nat.le_of_ble_eq_true rfl, Nat.le_of_ble_eq_true rfl⟩) hK hP hD hS hA [0, 1, 2, 3, 4, 5, 6, 7, 8, 9, 10, 11, 12, 13, 14, 15, 16, 17, 18, 19, 20, 21] [] [0, 1, 2, 3, 4, 5, 6, 7, 8, 9, 10, 11, 12, 13, 14, 15, 16, 17, 18, 19, 20, 21] rfl rfl rfl rfl (by decide) rfl rfl rfl rfl rfl hl.1 (Nat.le_of_ble_eq_true rfl) ⟨Nat.zero_le _, Nat.zero_le _⟩ dX2_filter_72 (fun H locs hP hD hS => ?_) rfl
              exact hret _ _ _ _ dX2_filter_75 (hP) (hD) hS
            · exact absurd hd2 c_6
        · exact absurd ((kLt (b := 8) rfl rfl (by omega) (by omega)).mpr hkk) c_4
    · exact absurd c_2 (by decide)

set_option maxHeartbeats 4000000 in
set_option maxRecDepth 100000 in
/-- BranchFilters.filter that is refused -/
theorem t_filter (l : Launch) (h0l : l.stackTraces = false) (D : va_G) (cI cF cJ : ClassId) (nd : Nat) (bq ca q0 ro0 rb0 pa0 q1 ro1 rb1 pa1 q2 ro2 rb2 pa2 q3 ro3 rb3 pa3 mo mb re rs : Nat) (k rn : Nat) (st en fi cm : Int32) (F0 F1 F2 F3 : FS) (f rf : Nat → Int32) (x y z : Int32) (hbad : x < 0 ∨ ¬ x < 4 ∨ y < 0 ∨ ¬ y < 8 ∨ z < 1 ∨ ¬ z ≤ 32) : kT nd l yX2_filter wsX2_filter ({ frames := 6, cells := 1, slots := 6, locals := 90 }) D (kTy cI cF cJ) [.ref bq, .int x, .int y, .int z] [(bq, .inr (2, [.ref ca, .ref mo, .ref re, .int st, .int en, .int fi, .int cm])), (ca, .inl (cF, 4, .inr (.inr (.inr (.inr (ch4 q0 q1 q2 q3)))))), (q0, .inr (0, [.ref ro0, .ref pa0, .int (nI (fKn F0)), .int (fDs F0), .int (fEn F0), .int (fPl F0), .int (fHe F0), .int (fGv F0), .int (fRp F0), .int (fMk F0), .int (fLa F0)])), (ro0, .inr (1, [.ref rb0, .int (nI (fN F0))])), (rb0, .inl (cI, 64, .inl (fG F0))), (pa0, .inl (cI, 32, .inl (fPf F0))), (q1, .inr (0, [.ref ro1, .ref pa1, .int (nI (fKn F1)), .int (fDs F1), .int (fEn F1), .int (fPl F1), .int (fHe F1), .int (fGv F1), .int (fRp F1), .int (fMk F1), .int (fLa F1)])), (ro1, .inr (1, [.ref rb1, .int (nI (fN F1))])), (rb1, .inl (cI, 64, .inl (fG F1))), (pa1, .inl (cI, 32, .inl (fPf F1))), (q2, .inr (0, [.ref ro2, .ref pa2, .int (nI (fKn F2)), .int (fDs F2), .int (fEn F2), .int (fPl F2), .int (fHe F2), .int (fGv F2), .int (fRp F2), .int (fMk F2), .int (fLa F2)])), (ro2, .inr (1, [.ref rb2, .int (nI (fN F2))])), (rb2, .inl (cI, 64, .inl (fG F2))), (pa2, .inl (cI, 32, .inl (fPf F2))), (q3, .inr (0, [.ref ro3, .ref pa3, .int (nI (fKn F3)), .int (fDs F3), .int (fEn F3), .int (fPl F3), .int (fHe F3), .int (fGv F3), .int (fRp F3), .int (fMk F3), .int (fLa F3)])), (ro3, .inr (1, [.ref rb3, .int (nI (fN F3))])), (rb3, .inl (cI, 64, .inl (fG F3))), (pa3, .inl (cI, 32, .inl (fPf F3))), (mo, .inr (1, [.ref mb, .int (nI k)])), (mb, .inl (cI, 64, .inl f)), (re, .inr (1, [.ref rs, .int (nI rn)])), (rs, .inl (cI, 2000, .inl rf))] kE1 := by
  refine kT_of (cc := cX2_filter) (nL := 4) (own := RX2) (lv := [(0, .ref bq), (1, .int x), (2, .int y), (3, .int z)]) (by decide) rfl rfl (Nat.le_of_ble_eq_true rfl) rfl ?_
  intro p e s m args below meth c A ls Qc C hex hA hG hK hP hD hS hl
  obtain ⟨hx, hb, hr, hml, hown, hts, hlocks⟩ := C
  have k_32 := hts (.classLink RX2 32 kE1) (by decide +kernel)
  have k_ini1 := hts (.initialized kE1) (by decide +kernel)
  refine lv_iload_n hx hb dX2_filter_0 rfl (lv_at hl 1 rfl) ?_
  refine lv_if_lt (tgt := 9) hx hb dX2_filter_1 (by decide) (fun c_1 => ?_) (fun c_1 => ?_)
  · exact kThrow (E := kE1) (text := "no such filter") (is := 34) (ik := 32) (ic := 36) h0l hx hb hml hown hts hlocks hex (by decide) (by decide) (by decide) k_32 k_ini1 (fun w h => List.mem_cons_of_mem _ (List.mem_append_right _ h)) kX1a kX1b hG hK hP hD hS hl.1 (Nat.le_of_ble_eq_true rfl) (Nat.le_of_ble_eq_true rfl) (Nat.le_refl _) (Nat.le_refl _) dX2_filter_9 dX2_filter_12 dX2_filter_13 dX2_filter_15 dX2_filter_18
  · refine lv_iload_n hx hb dX2_filter_4 rfl (lv_at hl 1 rfl) ?_
    refine lv_iconst (v := 4) hx hb dX2_filter_5 (by decide) ?_
    refine lv_icmp_lt (tgt := 19) hx hb dX2_filter_6 (by decide) (fun c_2 => ?_) (fun c_2 => ?_)
    · refine lv_iload_n hx hb dX2_filter_19 rfl (lv_at hl 2 rfl) ?_
      refine lv_if_lt (tgt := 29) hx hb dX2_filter_20 (by decide) (fun c_3 => ?_) (fun c_3 => ?_)
      · exact kThrow (E := kE1) (text := "no such kind") (is := 39) (ik := 32) (ic := 36) h0l hx hb hml hown hts hlocks hex (by decide) (by decide) (by decide) k_32 k_ini1 (fun w h => List.mem_cons_of_mem _ (List.mem_append_right _ h)) kX1a kX1b hG hK hP hD hS hl.1 (Nat.le_of_ble_eq_true rfl) (Nat.le_of_ble_eq_true rfl) (Nat.le_refl _) (Nat.le_refl _) dX2_filter_29 dX2_filter_32 dX2_filter_33 dX2_filter_35 dX2_filter_38
      · refine lv_iload_n hx hb dX2_filter_23 rfl (lv_at hl 2 rfl) ?_
        refine lv_bipush (v := 8) hx hb dX2_filter_24 (by decide) ?_
        refine lv_icmp_lt (tgt := 39) hx hb dX2_filter_26 (by decide) (fun c_4 => ?_) (fun c_4 => ?_)
        · refine lv_iload_n hx hb dX2_filter_39 rfl (lv_at hl 3 rfl) ?_
          refine lv_iconst (v := 1) hx hb dX2_filter_40 (by decide) ?_
          refine lv_icmp_lt (tgt := 50) hx hb dX2_filter_41 (by decide) (fun c_5 => ?_) (fun c_5 => ?_)
          · exact kThrow (E := kE1) (text := "no such distance") (is := 41) (ik := 32) (ic := 36) h0l hx hb hml hown hts hlocks hex (by decide) (by decide) (by decide) k_32 k_ini1 (fun w h => List.mem_cons_of_mem _ (List.mem_append_right _ h)) kX1a kX1b hG hK hP hD hS hl.1 (Nat.le_of_ble_eq_true rfl) (Nat.le_of_ble_eq_true rfl) (Nat.le_refl _) (Nat.le_refl _) dX2_filter_50 dX2_filter_53 dX2_filter_54 dX2_filter_56 dX2_filter_59
          · refine lv_iload_n hx hb dX2_filter_44 rfl (lv_at hl 3 rfl) ?_
            refine lv_bipush (v := 32) hx hb dX2_filter_45 (by decide) ?_
            refine lv_icmp_le (tgt := 60) hx hb dX2_filter_47 (by decide) (fun c_6 => ?_) (fun c_6 => ?_)
            · rcases hbad with h9 | h9 | h9 | h9 | h9 | h9
              · exact absurd h9 c_1
              · exact absurd c_2 h9
              · exact absurd h9 c_3
              · exact absurd c_4 h9
              · exact absurd h9 c_5
              · exact absurd c_6 h9
            · exact kThrow (E := kE1) (text := "no such distance") (is := 41) (ik := 32) (ic := 36) h0l hx hb hml hown hts hlocks hex (by decide) (by decide) (by decide) k_32 k_ini1 (fun w h => List.mem_cons_of_mem _ (List.mem_append_right _ h)) kX1a kX1b hG hK hP hD hS hl.1 (Nat.le_of_ble_eq_true rfl) (Nat.le_of_ble_eq_true rfl) (Nat.le_refl _) (Nat.le_refl _) dX2_filter_50 dX2_filter_53 dX2_filter_54 dX2_filter_56 dX2_filter_59
        · exact kThrow (E := kE1) (text := "no such kind") (is := 39) (ik := 32) (ic := 36) h0l hx hb hml hown hts hlocks hex (by decide) (by decide) (by decide) k_32 k_ini1 (fun w h => List.mem_cons_of_mem _ (List.mem_append_right _ h)) kX1a kX1b hG hK hP hD hS hl.1 (Nat.le_of_ble_eq_true rfl) (Nat.le_of_ble_eq_true rfl) (Nat.le_refl _) (Nat.le_refl _) dX2_filter_29 dX2_filter_32 dX2_filter_33 dX2_filter_35 dX2_filter_38
    · exact kThrow (E := kE1) (text := "no such filter") (is := 34) (ik := 32) (ic := 36) h0l hx hb hml hown hts hlocks hex (by decide) (by decide) (by decide) k_32 k_ini1 (fun w h => List.mem_cons_of_mem _ (List.mem_append_right _ h)) kX1a kX1b hG hK hP hD hS hl.1 (Nat.le_of_ble_eq_true rfl) (Nat.le_of_ble_eq_true rfl) (Nat.le_refl _) (Nat.le_refl _) dX2_filter_9 dX2_filter_12 dX2_filter_13 dX2_filter_15 dX2_filter_18

def cCnt (F : FS) (wn : Nat) : Int32 :=
  match wn with
  | 0 => nI (fKn F)
  | 1 => fDs F
  | 2 => nI (fN F)
  | 3 => fGv F
  | 4 => fRp F
  | _ => fMk F

set_option maxHeartbeats 4000000 in
set_option maxRecDepth 100000 in
/-- BranchFilters.count(0, wn) -/
theorem c_count0 (l : Launch) (D : va_G) (cI cF cJ : ClassId) (nd : Nat) (bq ca q0 q1 q2 q3 ro rb pa mo re wn : Nat) (st en fi cm : Int32) (F : FS) (hw : wn < 6) : kIG nd l yX2_count wsX2_count ({ frames := 1, cells := 0, slots := 0, locals := 20 }) D (kTy cI cF cJ) [.ref bq, .int 0, .int (nI wn)] [(bq, .inr (2, [.ref ca, .ref mo, .ref re, .int st, .int en, .int fi, .int cm])), (ca, .inl (cF, 4, .inr (.inr (.inr (.inr (ch4 q0 q1 q2 q3)))))), (q0, .inr (0, [.ref ro, .ref pa, .int (nI (fKn F)), .int (fDs F), .int (fEn F), .int (fPl F), .int (fHe F), .int (fGv F), .int (fRp F), .int (fMk F), .int (fLa F)])), (ro, .inr (1, [.ref rb, .int (nI (fN F))]))] [(bq, .inr (2, [.ref ca, .ref mo, .ref re, .int st, .int en, .int fi, .int cm])), (ca, .inl (cF, 4, .inr (.inr (.inr (.inr (ch4 q0 q1 q2 q3)))))), (q0, .inr (0, [.ref ro, .ref pa, .int (nI (fKn F)), .int (fDs F), .int (fEn F), .int (fPl F), .int (fHe F), .int (fGv F), .int (fRp F), .int (fMk F), .int (fLa F)])), (ro, .inr (1, [.ref rb, .int (nI (fN F))]))] (cCnt F wn) := by
  refine kIG_of (cc := cX2_count) (nL := 4) (ty := .int) (own := RX2) (lv := [(0, .ref bq), (1, .int 0), (2, .int (nI wn))]) (by decide) rfl rfl (Nat.le_of_ble_eq_true rfl) rfl (rfl) ?_
  intro p e s m args below meth c A ls Q C hA hG hK hP hD hS hl hret
  obtain ⟨hx, hb, hr, hml, hown, hts, hlocks⟩ := C
  have k_11 := hts (.fieldLink RX2 11 "BranchFilters" "chain" "[LBranchFilters$Filter;") (by decide +kernel)
  have inX0 : ∀ w ∈ wsX00, w ∈ wsX2_count := by decide +kernel
  have inX2 : ∀ w ∈ wsX20, w ∈ wsX2_count := by decide +kernel
  rcases (show wn = 0 ∨ wn = 1 ∨ wn = 2 ∨ wn = 3 ∨ wn = 4 ∨ wn = 5 by omega) with rfl | rfl | rfl | rfl | rfl | rfl
  · refine lv_iload_n hx hb dX2_count_0 rfl (lv_at hl 1 rfl) ?_
    refine lv_if_lt (tgt := 9) hx hb dX2_count_1 (by decide) (fun c_1 => ?_) (fun c_1 => ?_)
    · exact absurd c_1 (by decide)
    · refine lv_iload_n hx hb dX2_count_4 rfl (lv_at hl 1 rfl) ?_
      refine lv_iconst (v := 4) hx hb dX2_count_5 (by decide) ?_
      refine lv_icmp_lt (tgt := 19) hx hb dX2_count_6 (by decide) (fun c_2 => ?_) (fun c_2 => ?_)
      · refine lv_aload_n hx hb dX2_count_19 rfl (lv_at hl 0 rfl) ?_
        refine va_get (D := D) (ci := 2) (v := .ref ca) (C := RX2) (T := TX2) (N := 7) hx hb hts inX2 hown hK hP 0 rfl rfl 0 (by decide) k_11 (fun _ h9 => h9) rfl dX2_count_20 ?_
        refine lv_iload_n hx hb dX2_count_23 rfl (lv_at hl 1 rfl) ?_
        refine kAald (k := 0) (b := q0) hx hb hK hP 1 1 rfl rfl (by decide) (by omega) (by omega) (rfl) dX2_count_24 ?_
        refine lv_astore_n (lv' := [(3, .ref q0), (0, .ref bq), (1, .int 0), (2, .int (nI 0))]) hx hb dX2_count_25 rfl hl (by decide) rfl (fun ls hl => ?_)
        refine lv_iload_n hx hb dX2_count_26 rfl (lv_at hl 3 rfl) ?_
        refine lv_tableIn (tgt := 64) hx hb dX2_count_27 (by decide) (by decide) rfl (by decide) ?_
        refine lv_aload_n hx hb dX2_count_64 rfl (lv_at hl 0 rfl) ?_
        refine va_getN (D := D) (ci := 0) (v := .int (nI (fKn F))) (C := RX0) (T := TX0) (N := 11) (host := RX2) hx hb hts inX0 hown hK hP 2 rfl rfl 2 (by decide) (va_Nw.use rfl (hG.2.2.2.2.1 (83, "kind", "I") (by decide))) (fun _ h9 => h9) rfl dX2_count_65 ?_
        exact hret _ _ _ _ _ dX2_count_68 rfl hP hD hS
      · exact absurd c_2 (by decide)
  · refine lv_iload_n hx hb dX2_count_0 rfl (lv_at hl 1 rfl) ?_
    refine lv_if_lt (tgt := 9) hx hb dX2_count_1 (by decide) (fun c_3 => ?_) (fun c_3 => ?_)
    · exact absurd c_3 (by decide)
    · refine lv_iload_n hx hb dX2_count_4 rfl (lv_at hl 1 rfl) ?_
      refine lv_iconst (v := 4) hx hb dX2_count_5 (by decide) ?_
      refine lv_icmp_lt (tgt := 19) hx hb dX2_count_6 (by decide) (fun c_4 => ?_) (fun c_4 => ?_)
      · refine lv_aload_n hx hb dX2_count_19 rfl (lv_at hl 0 rfl) ?_
        refine va_get (D := D) (ci := 2) (v := .ref ca) (C := RX2) (T := TX2) (N := 7) hx hb hts inX2 hown hK hP 0 rfl rfl 0 (by decide) k_11 (fun _ h9 => h9) rfl dX2_count_20 ?_
        refine lv_iload_n hx hb dX2_count_23 rfl (lv_at hl 1 rfl) ?_
        refine kAald (k := 0) (b := q0) hx hb hK hP 1 1 rfl rfl (by decide) (by omega) (by omega) (rfl) dX2_count_24 ?_
        refine lv_astore_n (lv' := [(3, .ref q0), (0, .ref bq), (1, .int 0), (2, .int (nI 1))]) hx hb dX2_count_25 rfl hl (by decide) rfl (fun ls hl => ?_)
        refine lv_iload_n hx hb dX2_count_26 rfl (lv_at hl 3 rfl) ?_
        refine lv_tableIn (tgt := 69) hx hb dX2_count_27 (by decide) (by decide) rfl (by decide) ?_
        refine lv_aload_n hx hb dX2_count_69 rfl (lv_at hl 0 rfl) ?_
        refine va_getN (D := D) (ci := 0) (v := .int (fDs F)) (C := RX0) (T := TX0) (N := 11) (host := RX2) hx hb hts inX0 hown hK hP 2 rfl rfl 3 (by decide) (va_Nw.use rfl (hG.2.2.2.2.1 (86, "distance", "I") (by decide))) (fun _ h9 => h9) rfl dX2_count_70 ?_
        exact hret _ _ _ _ _ dX2_count_73 rfl hP hD hS
      · exact absurd c_4 (by decide)
  · refine lv_iload_n hx hb dX2_count_0 rfl (lv_at hl 1 rfl) ?_
    refine lv_if_lt (tgt := 9) hx hb dX2_count_1 (by decide) (fun c_5 => ?_) (fun c_5 => ?_)
    · exact absurd c_5 (by decide)
    · refine lv_iload_n hx hb dX2_count_4 rfl (lv_at hl 1 rfl) ?_
      refine lv_iconst (v := 4) hx hb dX2_count_5 (by decide) ?_
      refine lv_icmp_lt (tgt := 19) hx hb dX2_count_6 (by decide) (fun c_6 => ?_) (fun c_6 => ?_)
      · refine lv_aload_n hx hb dX2_count_19 rfl (lv_at hl 0 rfl) ?_
        refine va_get (D := D) (ci := 2) (v := .ref ca) (C := RX2) (T := TX2) (N := 7) hx hb hts inX2 hown hK hP 0 rfl rfl 0 (by decide) k_11 (fun _ h9 => h9) rfl dX2_count_20 ?_
        refine lv_iload_n hx hb dX2_count_23 rfl (lv_at hl 1 rfl) ?_
        refine kAald (k := 0) (b := q0) hx hb hK hP 1 1 rfl rfl (by decide) (by omega) (by omega) (rfl) dX2_count_24 ?_
        refine lv_astore_n (lv' := [(3, .ref q0), (0, .ref bq), (1, .int 0), (2, .int (nI 2))]) hx hb dX2_count_25 rfl hl (by decide) rfl (fun ls hl => ?_)
        refine lv_iload_n hx hb dX2_count_26 rfl (lv_at hl 3 rfl) ?_
        refine lv_tableIn (tgt := 74) hx hb dX2_count_27 (by decide) (by decide) rfl (by decide) ?_
        refine lv_aload_n hx hb dX2_count_74 rfl (lv_at hl 0 rfl) ?_
        refine va_getN (D := D) (ci := 0) (v := .ref ro) (C := RX0) (T := TX0) (N := 11) (host := RX2) hx hb hts inX0 hown hK hP 2 rfl rfl 0 (by decide) (va_Nw.use rfl (hG.2.2.2.2.1 (89, "held", "LBranchFilters$Row;") (by decide))) (fun _ h9 => h9) rfl dX2_count_75 ?_
        refine kCallI (As := []) (wc := [(ro, .inr (1, [.ref rb, .int (nI (fN F))]))]) (wr := [(bq, .inr (2, [.ref ca, .ref mo, .ref re, .int st, .int en, .int fi, .int cm])), (ca, .inl (cF, 4, .inr (.inr (.inr (.inr (ch4 q0 q1 q2 q3)))))), (q0, .inr (0, [.ref ro, .ref pa, .int (nI (fKn F)), .int (fDs F), .int (fEn F), .int (fPl F), .int (fHe F), .int (fGv F), .int (fRp F), .int (fMk F), .int (fLa F)]))]) (ws' := [(bq, .inr (2, [.ref ca, .ref mo, .ref re, .int st, .int en, .int fi, .int cm])), (ca, .inl (cF, 4, .inr (.inr (.inr (.inr (ch4 q0 q1 q2 q3)))))), (q0, .inr (0, [.ref ro, .ref pa, .int (nI (fKn F)), .int (fDs F), .int (fEn F), .int (fPl F), .int (fHe F), .int (fGv F), .int (fRp F), .int (fMk F), .int (fLa F)])), (ro, .inr (1, [.ref rb, .int (nI (fN F))]))]) (ci := 1) (C := RX1) ⟨hx, hb, hml, hown, hts⟩ (c_X1_size l D cI cF cJ ro rb (nI (fN F)) ) (cwV 0 hts gX2_count_X1_size rfl rfl rfl (by decide +kernel) ⟨Nat.le_of_ble_eq_true rfl, Nat.le_of_ble_eq_true rfl⟩) hK hP hD hS hA [3] [0, 1, 2] [0, 1, 2, 3] rfl rfl rfl rfl (by decide) rfl rfl rfl rfl rfl hl.1 (Nat.le_of_ble_eq_true rfl) ⟨Nat.zero_le _, Nat.zero_le _⟩ dX2_count_78 (fun H locs hP hD hS => ?_) rfl
        exact hret _ _ _ _ _ dX2_count_81 rfl hP hD hS
      · exact absurd c_6 (by decide)
  · refine lv_iload_n hx hb dX2_count_0 rfl (lv_at hl 1 rfl) ?_
    refine lv_if_lt (tgt := 9) hx hb dX2_count_1 (by decide) (fun c_7 => ?_) (fun c_7 => ?_)
    · exact absurd c_7 (by decide)
    · refine lv_iload_n hx hb dX2_count_4 rfl (lv_at hl 1 rfl) ?_
      refine lv_iconst (v := 4) hx hb dX2_count_5 (by decide) ?_
      refine lv_icmp_lt (tgt := 19) hx hb dX2_count_6 (by decide) (fun c_8 => ?_) (fun c_8 => ?_)
      · refine lv_aload_n hx hb dX2_count_19 rfl (lv_at hl 0 rfl) ?_
        refine va_get (D := D) (ci := 2) (v := .ref ca) (C := RX2) (T := TX2) (N := 7) hx hb hts inX2 hown hK hP 0 rfl rfl 0 (by decide) k_11 (fun _ h9 => h9) rfl dX2_count_20 ?_
        refine lv_iload_n hx hb dX2_count_23 rfl (lv_at hl 1 rfl) ?_
        refine kAald (k := 0) (b := q0) hx hb hK hP 1 1 rfl rfl (by decide) (by omega) (by omega) (rfl) dX2_count_24 ?_
        refine lv_astore_n (lv' := [(3, .ref q0), (0, .ref bq), (1, .int 0), (2, .int (nI 3))]) hx hb dX2_count_25 rfl hl (by decide) rfl (fun ls hl => ?_)
        refine lv_iload_n hx hb dX2_count_26 rfl (lv_at hl 3 rfl) ?_
        refine lv_tableIn (tgt := 82) hx hb dX2_count_27 (by decide) (by decide) rfl (by decide) ?_
        refine lv_aload_n hx hb dX2_count_82 rfl (lv_at hl 0 rfl) ?_
        refine va_getN (D := D) (ci := 0) (v := .int (fGv F)) (C := RX0) (T := TX0) (N := 11) (host := RX2) hx hb hts inX0 hown hK hP 2 rfl rfl 7 (by decide) (va_Nw.use rfl (hG.2.2.2.2.1 (92, "given", "I") (by decide))) (fun _ h9 => h9) rfl dX2_count_83 ?_
        exact hret _ _ _ _ _ dX2_count_86 rfl hP hD hS
      · exact absurd c_8 (by decide)
  · refine lv_iload_n hx hb dX2_count_0 rfl (lv_at hl 1 rfl) ?_
    refine lv_if_lt (tgt := 9) hx hb dX2_count_1 (by decide) (fun c_9 => ?_) (fun c_9 => ?_)
    · exact absurd c_9 (by decide)
    · refine lv_iload_n hx hb dX2_count_4 rfl (lv_at hl 1 rfl) ?_
      refine lv_iconst (v := 4) hx hb dX2_count_5 (by decide) ?_
      refine lv_icmp_lt (tgt := 19) hx hb dX2_count_6 (by decide) (fun c_10 => ?_) (fun c_10 => ?_)
      · refine lv_aload_n hx hb dX2_count_19 rfl (lv_at hl 0 rfl) ?_
        refine va_get (D := D) (ci := 2) (v := .ref ca) (C := RX2) (T := TX2) (N := 7) hx hb hts inX2 hown hK hP 0 rfl rfl 0 (by decide) k_11 (fun _ h9 => h9) rfl dX2_count_20 ?_
        refine lv_iload_n hx hb dX2_count_23 rfl (lv_at hl 1 rfl) ?_
        refine kAald (k := 0) (b := q0) hx hb hK hP 1 1 rfl rfl (by decide) (by omega) (by omega) (rfl) dX2_count_24 ?_
        refine lv_astore_n (lv' := [(3, .ref q0), (0, .ref bq), (1, .int 0), (2, .int (nI 4))]) hx hb dX2_count_25 rfl hl (by decide) rfl (fun ls hl => ?_)
        refine lv_iload_n hx hb dX2_count_26 rfl (lv_at hl 3 rfl) ?_
        refine lv_tableIn (tgt := 87) hx hb dX2_count_27 (by decide) (by decide) rfl (by decide) ?_
        refine lv_aload_n hx hb dX2_count_87 rfl (lv_at hl 0 rfl) ?_
        refine va_getN (D := D) (ci := 0) (v := .int (fRp F)) (C := RX0) (T := TX0) (N := 11) (host := RX2) hx hb hts inX0 hown hK hP 2 rfl rfl 8 (by decide) (va_Nw.use rfl (hG.2.2.2.2.1 (95, "replaced", "I") (by decide))) (fun _ h9 => h9) rfl dX2_count_88 ?_
        exact hret _ _ _ _ _ dX2_count_91 rfl hP hD hS
      · exact absurd c_10 (by decide)
  · refine lv_iload_n hx hb dX2_count_0 rfl (lv_at hl 1 rfl) ?_
    refine lv_if_lt (tgt := 9) hx hb dX2_count_1 (by decide) (fun c_11 => ?_) (fun c_11 => ?_)
    · exact absurd c_11 (by decide)
    · refine lv_iload_n hx hb dX2_count_4 rfl (lv_at hl 1 rfl) ?_
      refine lv_iconst (v := 4) hx hb dX2_count_5 (by decide) ?_
      refine lv_icmp_lt (tgt := 19) hx hb dX2_count_6 (by decide) (fun c_12 => ?_) (fun c_12 => ?_)
      · refine lv_aload_n hx hb dX2_count_19 rfl (lv_at hl 0 rfl) ?_
        refine va_get (D := D) (ci := 2) (v := .ref ca) (C := RX2) (T := TX2) (N := 7) hx hb hts inX2 hown hK hP 0 rfl rfl 0 (by decide) k_11 (fun _ h9 => h9) rfl dX2_count_20 ?_
        refine lv_iload_n hx hb dX2_count_23 rfl (lv_at hl 1 rfl) ?_
        refine kAald (k := 0) (b := q0) hx hb hK hP 1 1 rfl rfl (by decide) (by omega) (by omega) (rfl) dX2_count_24 ?_
        refine lv_astore_n (lv' := [(3, .ref q0), (0, .ref bq), (1, .int 0), (2, .int (nI 5))]) hx hb dX2_count_25 rfl hl (by decide) rfl (fun ls hl => ?_)
        refine lv_iload_n hx hb dX2_count_26 rfl (lv_at hl 3 rfl) ?_
        refine lv_tableIn (tgt := 92) hx hb dX2_count_27 (by decide) (by decide) rfl (by decide) ?_
        refine lv_aload_n hx hb dX2_count_92 rfl (lv_at hl 0 rfl) ?_
        refine va_getN (D := D) (ci := 0) (v := .int (fMk F)) (C := RX0) (T := TX0) (N := 11) (host := RX2) hx hb hts inX0 hown hK hP 2 rfl rfl 9 (by decide) (va_Nw.use rfl (hG.2.2.2.2.1 (98, "mask", "I") (by decide))) (fun _ h9 => h9) rfl dX2_count_93 ?_
        exact hret _ _ _ _ _ dX2_count_96 rfl hP hD hS
      · exact absurd c_12 (by decide)

set_option maxHeartbeats 4000000 in
set_option maxRecDepth 100000 in
/-- BranchFilters.count(1, wn) -/
theorem c_count1 (l : Launch) (D : va_G) (cI cF cJ : ClassId) (nd : Nat) (bq ca q0 q1 q2 q3 ro rb pa mo re wn : Nat) (st en fi cm : Int32) (F : FS) (hw : wn < 6) : kIG nd l yX2_count wsX2_count ({ frames := 1, cells := 0, slots := 0, locals := 20 }) D (kTy cI cF cJ) [.ref bq, .int 1, .int (nI wn)] [(bq, .inr (2, [.ref ca, .ref mo, .ref re, .int st, .int en, .int fi, .int cm])), (ca, .inl (cF, 4, .inr (.inr (.inr (.inr (ch4 q0 q1 q2 q3)))))), (q1, .inr (0, [.ref ro, .ref pa, .int (nI (fKn F)), .int (fDs F), .int (fEn F), .int (fPl F), .int (fHe F), .int (fGv F), .int (fRp F), .int (fMk F), .int (fLa F)])), (ro, .inr (1, [.ref rb, .int (nI (fN F))]))] [(bq, .inr (2, [.ref ca, .ref mo, .ref re, .int st, .int en, .int fi, .int cm])), (ca, .inl (cF, 4, .inr (.inr (.inr (.inr (ch4 q0 q1 q2 q3)))))), (q1, .inr (0, [.ref ro, .ref pa, .int (nI (fKn F)), .int (fDs F), .int (fEn F), .int (fPl F), .int (fHe F), .int (fGv F), .int (fRp F), .int (fMk F), .int (fLa F)])), (ro, .inr (1, [.ref rb, .int (nI (fN F))]))] (cCnt F wn) := by
  refine kIG_of (cc := cX2_count) (nL := 4) (ty := .int) (own := RX2) (lv := [(0, .ref bq), (1, .int 1), (2, .int (nI wn))]) (by decide) rfl rfl (Nat.le_of_ble_eq_true rfl) rfl (rfl) ?_
  intro p e s m args below meth c A ls Q C hA hG hK hP hD hS hl hret
  obtain ⟨hx, hb, hr, hml, hown, hts, hlocks⟩ := C
  have k_11 := hts (.fieldLink RX2 11 "BranchFilters" "chain" "[LBranchFilters$Filter;") (by decide +kernel)
  have inX0 : ∀ w ∈ wsX00, w ∈ wsX2_count := by decide +kernel
  have inX2 : ∀ w ∈ wsX20, w ∈ wsX2_count := by decide +kernel
  rcases (show wn = 0 ∨ wn = 1 ∨ wn = 2 ∨ wn = 3 ∨ wn = 4 ∨ wn = 5 by omega) with rfl | rfl | rfl | rfl | rfl | rfl
  · refine lv_iload_n hx hb dX2_count_0 rfl (lv_at hl 1 rfl) ?_
    refine lv_if_lt (tgt := 9) hx hb dX2_count_1 (by decide) (fun c_1 => ?_) (fun c_1 => ?_)
    · exact absurd c_1 (by decide)
    · refine lv_iload_n hx hb dX2_count_4 rfl (lv_at hl 1 rfl) ?_
      refine lv_iconst (v := 4) hx hb dX2_count_5 (by decide) ?_
      refine lv_icmp_lt (tgt := 19) hx hb dX2_count_6 (by decide) (fun c_2 => ?_) (fun c_2 => ?_)
      · refine lv_aload_n hx hb dX2_count_19 rfl (lv_at hl 0 rfl) ?_
        refine va_get (D := D) (ci := 2) (v := .ref ca) (C := RX2) (T := TX2) (N := 7) hx hb hts inX2 hown hK hP 0 rfl rfl 0 (by decide) k_11 (fun _ h9 => h9) rfl dX2_count_20 ?_
        refine lv_iload_n hx hb dX2_count_23 rfl (lv_at hl 1 rfl) ?_
        refine kAald (k := 1) (b := q1) hx hb hK hP 1 1 rfl rfl (by decide) (by omega) (by omega) (rfl) dX2_count_24 ?_
        refine lv_astore_n (lv' := [(3, .ref q1), (0, .ref bq), (1, .int 1), (2, .int (nI 0))]) hx hb dX2_count_25 rfl hl (by decide) rfl (fun ls hl => ?_)
        refine lv_iload_n hx hb dX2_count_26 rfl (lv_at hl 3 rfl) ?_
        refine lv_tableIn (tgt := 64) hx hb dX2_count_27 (by decide) (by decide) rfl (by decide) ?_
        refine lv_aload_n hx hb dX2_count_64 rfl (lv_at hl 0 rfl) ?_
        refine va_getN (D := D) (ci := 0) (v := .int (nI (fKn F))) (C := RX0) (T := TX0) (N := 11) (host := RX2) hx hb hts inX0 hown hK hP 2 rfl rfl 2 (by decide) (va_Nw.use rfl (hG.2.2.2.2.1 (83, "kind", "I") (by decide))) (fun _ h9 => h9) rfl dX2_count_65 ?_
        exact hret _ _ _ _ _ dX2_count_68 rfl hP hD hS
      · exact absurd c_2 (by decide)
  · refine lv_iload_n hx hb dX2_count_0 rfl (lv_at hl 1 rfl) ?_
    refine lv_if_lt (tgt := 9) hx hb dX2_count_1 (by decide) (fun c_3 => ?_) (fun c_3 => ?_)
    · exact absurd c_3 (by decide)
    · refine lv_iload_n hx hb dX2_count_4 rfl (lv_at hl 1 rfl) ?_
      refine lv_iconst (v := 4) hx hb dX2_count_5 (by decide) ?_
      refine lv_icmp_lt (tgt := 19) hx hb dX2_count_6 (by decide) (fun c_4 => ?_) (fun c_4 => ?_)
      · refine lv_aload_n hx hb dX2_count_19 rfl (lv_at hl 0 rfl) ?_
        refine va_get (D := D) (ci := 2) (v := .ref ca) (C := RX2) (T := TX2) (N := 7) hx hb hts inX2 hown hK hP 0 rfl rfl 0 (by decide) k_11 (fun _ h9 => h9) rfl dX2_count_20 ?_
        refine lv_iload_n hx hb dX2_count_23 rfl (lv_at hl 1 rfl) ?_
        refine kAald (k := 1) (b := q1) hx hb hK hP 1 1 rfl rfl (by decide) (by omega) (by omega) (rfl) dX2_count_24 ?_
        refine lv_astore_n (lv' := [(3, .ref q1), (0, .ref bq), (1, .int 1), (2, .int (nI 1))]) hx hb dX2_count_25 rfl hl (by decide) rfl (fun ls hl => ?_)
        refine lv_iload_n hx hb dX2_count_26 rfl (lv_at hl 3 rfl) ?_
        refine lv_tableIn (tgt := 69) hx hb dX2_count_27 (by decide) (by decide) rfl (by decide) ?_
        refine lv_aload_n hx hb dX2_count_69 rfl (lv_at hl 0 rfl) ?_
        refine va_getN (D := D) (ci := 0) (v := .int (fDs F)) (C := RX0) (T := TX0) (N := 11) (host := RX2) hx hb hts inX0 hown hK hP 2 rfl rfl 3 (by decide) (va_Nw.use rfl (hG.2.2.2.2.1 (86, "distance", "I") (by decide))) (fun _ h9 => h9) rfl dX2_count_70 ?_
        exact hret _ _ _ _ _ dX2_count_73 rfl hP hD hS
      · exact absurd c_4 (by decide)
  · refine lv_iload_n hx hb dX2_count_0 rfl (lv_at hl 1 rfl) ?_
    refine lv_if_lt (tgt := 9) hx hb dX2_count_1 (by decide) (fun c_5 => ?_) (fun c_5 => ?_)
    · exact absurd c_5 (by decide)
    · refine lv_iload_n hx hb dX2_count_4 rfl (lv_at hl 1 rfl) ?_
      refine lv_iconst (v := 4) hx hb dX2_count_5 (by decide) ?_
      refine lv_icmp_lt (tgt := 19) hx hb dX2_count_6 (by decide) (fun c_6 => ?_) (fun c_6 => ?_)
      · refine lv_aload_n hx hb dX2_count_19 rfl (lv_at hl 0 rfl) ?_
        refine va_get (D := D) (ci := 2) (v := .ref ca) (C := RX2) (T := TX2) (N := 7) hx hb hts inX2 hown hK hP 0 rfl rfl 0 (by decide) k_11 (fun _ h9 => h9) rfl dX2_count_20 ?_
        refine lv_iload_n hx hb dX2_count_23 rfl (lv_at hl 1 rfl) ?_
        refine kAald (k := 1) (b := q1) hx hb hK hP 1 1 rfl rfl (by decide) (by omega) (by omega) (rfl) dX2_count_24 ?_
        refine lv_astore_n (lv' := [(3, .ref q1), (0, .ref bq), (1, .int 1), (2, .int (nI 2))]) hx hb dX2_count_25 rfl hl (by decide) rfl (fun ls hl => ?_)
        refine lv_iload_n hx hb dX2_count_26 rfl (lv_at hl 3 rfl) ?_
        refine lv_tableIn (tgt := 74) hx hb dX2_count_27 (by decide) (by decide) rfl (by decide) ?_
        refine lv_aload_n hx hb dX2_count_74 rfl (lv_at hl 0 rfl) ?_
        refine va_getN (D := D) (ci := 0) (v := .ref ro) (C := RX0) (T := TX0) (N := 11) (host := RX2) hx hb hts inX0 hown hK hP 2 rfl rfl 0 (by decide) (va_Nw.use rfl (hG.2.2.2.2.1 (89, "held", "LBranchFilters$Row;") (by decide))) (fun _ h9 => h9) rfl dX2_count_75 ?_
        refine kCallI (As := []) (wc := [(ro, .inr (1, [.ref rb, .int (nI (fN F))]))]) (wr := [(bq, .inr (2, [.ref ca, .ref mo, .ref re, .int st, .int en, .int fi, .int cm])), (ca, .inl (cF, 4, .inr (.inr (.inr (.inr (ch4 q0 q1 q2 q3)))))), (q1, .inr (0, [.ref ro, .ref pa, .int (nI (fKn F)), .int (fDs F), .int (fEn F), .int (fPl F), .int (fHe F), .int (fGv F), .int (fRp F), .int (fMk F), .int (fLa F)]))]) (ws' := [(bq, .inr (2, [.ref ca, .ref mo, .ref re, .int st, .int en, .int fi, .int cm])), (ca, .inl (cF, 4, .inr (.inr (.inr (.inr (ch4 q0 q1 q2 q3)))))), (q1, .inr (0, [.ref ro, .ref pa, .int (nI (fKn F)), .int (fDs F), .int (fEn F), .int (fPl F), .int (fHe F), .int (fGv F), .int (fRp F), .int (fMk F), .int (fLa F)])), (ro, .inr (1, [.ref rb, .int (nI (fN F))]))]) (ci := 1) (C := RX1) ⟨hx, hb, hml, hown, hts⟩ (c_X1_size l D cI cF cJ ro rb (nI (fN F)) ) (cwV 0 hts gX2_count_X1_size rfl rfl rfl (by decide +kernel) ⟨Nat.le_of_ble_eq_true rfl, Nat.le_of_ble_eq_true rfl⟩) hK hP hD hS hA [3] [0, 1, 2] [0, 1, 2, 3] rfl rfl rfl rfl (by decide) rfl rfl rfl rfl rfl hl.1 (Nat.le_of_ble_eq_true rfl) ⟨Nat.zero_le _, Nat.zero_le _⟩ dX2_count_78 (fun H locs hP hD hS => ?_) rfl
        exact hret _ _ _ _ _ dX2_count_81 rfl hP hD hS
      · exact absurd c_6 (by decide)
  · refine lv_iload_n hx hb dX2_count_0 rfl (lv_at hl 1 rfl) ?_
    refine lv_if_lt (tgt := 9) hx hb dX2_count_1 (by decide) (fun c_7 => ?_) (fun c_7 => ?_)
    · exact absurd c_7 (by decide)
    · refine lv_iload_n hx hb dX2_count_4 rfl (lv_at hl 1 rfl) ?_
      refine lv_iconst (v := 4) hx hb dX2_count_5 (by decide) ?_
      refine lv_icmp_lt (tgt := 19) hx hb dX2_count_6 (by decide) (fun c_8 => ?_) (fun c_8 => ?_)
      · refine lv_aload_n hx hb dX2_count_19 rfl (lv_at hl 0 rfl) ?_
        refine va_get (D := D) (ci := 2) (v := .ref ca) (C := RX2) (T := TX2) (N := 7) hx hb hts inX2 hown hK hP 0 rfl rfl 0 (by decide) k_11 (fun _ h9 => h9) rfl dX2_count_20 ?_
        refine lv_iload_n hx hb dX2_count_23 rfl (lv_at hl 1 rfl) ?_
        refine kAald (k := 1) (b := q1) hx hb hK hP 1 1 rfl rfl (by decide) (by omega) (by omega) (rfl) dX2_count_24 ?_
        refine lv_astore_n (lv' := [(3, .ref q1), (0, .ref bq), (1, .int 1), (2, .int (nI 3))]) hx hb dX2_count_25 rfl hl (by decide) rfl (fun ls hl => ?_)
        refine lv_iload_n hx hb dX2_count_26 rfl (lv_at hl 3 rfl) ?_
        refine lv_tableIn (tgt := 82) hx hb dX2_count_27 (by decide) (by decide) rfl (by decide) ?_
        refine lv_aload_n hx hb dX2_count_82 rfl (lv_at hl 0 rfl) ?_
        refine va_getN (D := D) (ci := 0) (v := .int (fGv F)) (C := RX0) (T := TX0) (N := 11) (host := RX2) hx hb hts inX0 hown hK hP 2 rfl rfl 7 (by decide) (va_Nw.use rfl (hG.2.2.2.2.1 (92, "given", "I") (by decide))) (fun _ h9 => h9) rfl dX2_count_83 ?_
        exact hret _ _ _ _ _ dX2_count_86 rfl hP hD hS
      · exact absurd c_8 (by decide)
  · refine lv_iload_n hx hb dX2_count_0 rfl (lv_at hl 1 rfl) ?_
    refine lv_if_lt (tgt := 9) hx hb dX2_count_1 (by decide) (fun c_9 => ?_) (fun c_9 => ?_)
    · exact absurd c_9 (by decide)
    · refine lv_iload_n hx hb dX2_count_4 rfl (lv_at hl 1 rfl) ?_
      refine lv_iconst (v := 4) hx hb dX2_count_5 (by decide) ?_
      refine lv_icmp_lt (tgt := 19) hx hb dX2_count_6 (by decide) (fun c_10 => ?_) (fun c_10 => ?_)
      · refine lv_aload_n hx hb dX2_count_19 rfl (lv_at hl 0 rfl) ?_
        refine va_get (D := D) (ci := 2) (v := .ref ca) (C := RX2) (T := TX2) (N := 7) hx hb hts inX2 hown hK hP 0 rfl rfl 0 (by decide) k_11 (fun _ h9 => h9) rfl dX2_count_20 ?_
        refine lv_iload_n hx hb dX2_count_23 rfl (lv_at hl 1 rfl) ?_
        refine kAald (k := 1) (b := q1) hx hb hK hP 1 1 rfl rfl (by decide) (by omega) (by omega) (rfl) dX2_count_24 ?_
        refine lv_astore_n (lv' := [(3, .ref q1), (0, .ref bq), (1, .int 1), (2, .int (nI 4))]) hx hb dX2_count_25 rfl hl (by decide) rfl (fun ls hl => ?_)
        refine lv_iload_n hx hb dX2_count_26 rfl (lv_at hl 3 rfl) ?_
        refine lv_tableIn (tgt := 87) hx hb dX2_count_27 (by decide) (by decide) rfl (by decide) ?_
        refine lv_aload_n hx hb dX2_count_87 rfl (lv_at hl 0 rfl) ?_
        refine va_getN (D := D) (ci := 0) (v := .int (fRp F)) (C := RX0) (T := TX0) (N := 11) (host := RX2) hx hb hts inX0 hown hK hP 2 rfl rfl 8 (by decide) (va_Nw.use rfl (hG.2.2.2.2.1 (95, "replaced", "I") (by decide))) (fun _ h9 => h9) rfl dX2_count_88 ?_
        exact hret _ _ _ _ _ dX2_count_91 rfl hP hD hS
      · exact absurd c_10 (by decide)
  · refine lv_iload_n hx hb dX2_count_0 rfl (lv_at hl 1 rfl) ?_
    refine lv_if_lt (tgt := 9) hx hb dX2_count_1 (by decide) (fun c_11 => ?_) (fun c_11 => ?_)
    · exact absurd c_11 (by decide)
    · refine lv_iload_n hx hb dX2_count_4 rfl (lv_at hl 1 rfl) ?_
      refine lv_iconst (v := 4) hx hb dX2_count_5 (by decide) ?_
      refine lv_icmp_lt (tgt := 19) hx hb dX2_count_6 (by decide) (fun c_12 => ?_) (fun c_12 => ?_)
      · refine lv_aload_n hx hb dX2_count_19 rfl (lv_at hl 0 rfl) ?_
        refine va_get (D := D) (ci := 2) (v := .ref ca) (C := RX2) (T := TX2) (N := 7) hx hb hts inX2 hown hK hP 0 rfl rfl 0 (by decide) k_11 (fun _ h9 => h9) rfl dX2_count_20 ?_
        refine lv_iload_n hx hb dX2_count_23 rfl (lv_at hl 1 rfl) ?_
        refine kAald (k := 1) (b := q1) hx hb hK hP 1 1 rfl rfl (by decide) (by omega) (by omega) (rfl) dX2_count_24 ?_
        refine lv_astore_n (lv' := [(3, .ref q1), (0, .ref bq), (1, .int 1), (2, .int (nI 5))]) hx hb dX2_count_25 rfl hl (by decide) rfl (fun ls hl => ?_)
        refine lv_iload_n hx hb dX2_count_26 rfl (lv_at hl 3 rfl) ?_
        refine lv_tableIn (tgt := 92) hx hb dX2_count_27 (by decide) (by decide) rfl (by decide) ?_
        refine lv_aload_n hx hb dX2_count_92 rfl (lv_at hl 0 rfl) ?_
        refine va_getN (D := D) (ci := 0) (v := .int (fMk F)) (C := RX0) (T := TX0) (N := 11) (host := RX2) hx hb hts inX0 hown hK hP 2 rfl rfl 9 (by decide) (va_Nw.use rfl (hG.2.2.2.2.1 (98, "mask", "I") (by decide))) (fun _ h9 => h9) rfl dX2_count_93 ?_
        exact hret _ _ _ _ _ dX2_count_96 rfl hP hD hS
      · exact absurd c_12 (by decide)

set_option maxHeartbeats 4000000 in
set_option maxRecDepth 100000 in
/-- BranchFilters.count(2, wn) -/
theorem c_count2 (l : Launch) (D : va_G) (cI cF cJ : ClassId) (nd : Nat) (bq ca q0 q1 q2 q3 ro rb pa mo re wn : Nat) (st en fi cm : Int32) (F : FS) (hw : wn < 6) : kIG nd l yX2_count wsX2_count ({ frames := 1, cells := 0, slots := 0, locals := 20 }) D (kTy cI cF cJ) [.ref bq, .int 2, .int (nI wn)] [(bq, .inr (2, [.ref ca, .ref mo, .ref re, .int st, .int en, .int fi, .int cm])), (ca, .inl (cF, 4, .inr (.inr (.inr (.inr (ch4 q0 q1 q2 q3)))))), (q2, .inr (0, [.ref ro, .ref pa, .int (nI (fKn F)), .int (fDs F), .int (fEn F), .int (fPl F), .int (fHe F), .int (fGv F), .int (fRp F), .int (fMk F), .int (fLa F)])), (ro, .inr (1, [.ref rb, .int (nI (fN F))]))] [(bq, .inr (2, [.ref ca, .ref mo, .ref re, .int st, .int en, .int fi, .int cm])), (ca, .inl (cF, 4, .inr (.inr (.inr (.inr (ch4 q0 q1 q2 q3)))))), (q2, .inr (0, [.ref ro, .ref pa, .int (nI (fKn F)), .int (fDs F), .int (fEn F), .int (fPl F), .int (fHe F), .int (fGv F), .int (fRp F), .int (fMk F), .int (fLa F)])), (ro, .inr (1, [.ref rb, .int (nI (fN F))]))] (cCnt F wn) := by
  refine kIG_of (cc := cX2_count) (nL := 4) (ty := .int) (own := RX2) (lv := [(0, .ref bq), (1, .int 2), (2, .int (nI wn))]) (by decide) rfl rfl (Nat.le_of_ble_eq_true rfl) rfl (rfl) ?_
  intro p e s m args below meth c A ls Q C hA hG hK hP hD hS hl hret
  obtain ⟨hx, hb, hr, hml, hown, hts, hlocks⟩ := C
  have k_11 := hts (.fieldLink RX2 11 "BranchFilters" "chain" "[LBranchFilters$Filter;") (by decide +kernel)
  have inX0 : ∀ w ∈ wsX00, w ∈ wsX2_count := by decide +kernel
  have inX2 : ∀ w ∈ wsX20, w ∈ wsX2_count := by decide +kernel
  rcases (show wn = 0 ∨ wn = 1 ∨ wn = 2 ∨ wn = 3 ∨ wn = 4 ∨ wn = 5 by omega) with rfl | rfl | rfl | rfl | rfl | rfl
  · refine lv_iload_n hx hb dX2_count_0 rfl (lv_at hl 1 rfl) ?_
    refine lv_if_lt (tgt := 9) hx hb dX2_count_1 (by decide) (fun c_1 => ?_) (fun c_1 => ?_)
    · exact absurd c_1 (by decide)
    · refine lv_iload_n hx hb dX2_count_4 rfl (lv_at hl 1 rfl) ?_
      refine lv_iconst (v := 4) hx hb dX2_count_5 (by decide) ?_
      refine lv_icmp_lt (tgt := 19) hx hb dX2_count_6 (by decide) (fun c_2 => ?_) (fun c_2 => ?_)
      · refine lv_aload_n hx hb dX2_count_19 rfl (lv_at hl 0 rfl) ?_
        refine va_get (D := D) (ci := 2) (v := .ref ca) (C := RX2) (T := TX2) (N := 7) hx hb hts inX2 hown hK hP 0 rfl rfl 0 (by decide) k_11 (fun _ h9 => h9) rfl dX2_count_20 ?_
        refine lv_iload_n hx hb dX2_count_23 rfl (lv_at hl 1 rfl) ?_
        refine kAald (k := 2) (b := q2) hx hb hK hP 1 1 rfl rfl (by decide) (by omega) (by omega) (rfl) dX2_count_24 ?_
        refine lv_astore_n (lv' := [(3, .ref q2), (0, .ref bq), (1, .int 2), (2, .int (nI 0))]) hx hb dX2_count_25 rfl hl (by decide) rfl (fun ls hl => ?_)
        refine lv_iload_n hx hb dX2_count_26 rfl (lv_at hl 3 rfl) ?_
        refine lv_tableIn (tgt := 64) hx hb dX2_count_27 (by decide) (by decide) rfl (by decide) ?_
        refine lv_aload_n hx hb dX2_count_64 rfl (lv_at hl 0 rfl) ?_
        refine va_getN (D := D) (ci := 0) (v := .int (nI (fKn F))) (C := RX0) (T := TX0) (N := 11) (host := RX2) hx hb hts inX0 hown hK hP 2 rfl rfl 2 (by decide) (va_Nw.use rfl (hG.2.2.2.2.1 (83, "kind", "I") (by decide))) (fun _ h9 => h9) rfl dX2_count_65 ?_
        exact hret _ _ _ _ _ dX2_count_68 rfl hP hD hS
      · exact absurd c_2 (by decide)
  · refine lv_iload_n hx hb dX2_count_0 rfl (lv_at hl 1 rfl) ?_
    refine lv_if_lt (tgt := 9) hx hb dX2_count_1 (by decide) (fun c_3 => ?_) (fun c_3 => ?_)
    · exact absurd c_3 (by decide)
    · refine lv_iload_n hx hb dX2_count_4 rfl (lv_at hl 1 rfl) ?_
      refine lv_iconst (v := 4) hx hb dX2_count_5 (by decide) ?_
      refine lv_icmp_lt (tgt := 19) hx hb dX2_count_6 (by decide) (fun c_4 => ?_) (fun c_4 => ?_)
      · refine lv_aload_n hx hb dX2_count_19 rfl (lv_at hl 0 rfl) ?_
        refine va_get (D := D) (ci := 2) (v := .ref ca) (C := RX2) (T := TX2) (N := 7) hx hb hts inX2 hown hK hP 0 rfl rfl 0 (by decide) k_11 (fun _ h9 => h9) rfl dX2_count_20 ?_
        refine lv_iload_n hx hb dX2_count_23 rfl (lv_at hl 1 rfl) ?_
        refine kAald (k := 2) (b := q2) hx hb hK hP 1 1 rfl rfl (by decide) (by omega) (by omega) (rfl) dX2_count_24 ?_
        refine lv_astore_n (lv' := [(3, .ref q2), (0, .ref bq), (1, .int 2), (2, .int (nI 1))]) hx hb dX2_count_25 rfl hl (by decide) rfl (fun ls hl => ?_)
        refine lv_iload_n hx hb dX2_count_26 rfl (lv_at hl 3 rfl) ?_
        refine lv_tableIn (tgt := 69) hx hb dX2_count_27 (by decide) (by decide) rfl (by decide) ?_
        refine lv_aload_n hx hb dX2_count_69 rfl (lv_at hl 0 rfl) ?_
        refine va_getN (D := D) (ci := 0) (v := .int (fDs F)) (C := RX0) (T := TX0) (N := 11) (host := RX2) hx hb hts inX0 hown hK hP 2 rfl rfl 3 (by decide) (va_Nw.use rfl (hG.2.2.2.2.1 (86, "distance", "I") (by decide))) (fun _ h9 => h9) rfl dX2_count_70 ?_
        exact hret _ _ _ _ _ dX2_count_73 rfl hP hD hS
      · exact absurd c_4 (by decide)
  · refine lv_iload_n hx hb dX2_count_0 rfl (lv_at hl 1 rfl) ?_
    refine lv_if_lt (tgt := 9) hx hb dX2_count_1 (by decide) (fun c_5 => ?_) (fun c_5 => ?_)
    · exact absurd c_5 (by decide)
    · refine lv_iload_n hx hb dX2_count_4 rfl (lv_at hl 1 rfl) ?_
      refine lv_iconst (v := 4) hx hb dX2_count_5 (by decide) ?_
      refine lv_icmp_lt (tgt := 19) hx hb dX2_count_6 (by decide) (fun c_6 => ?_) (fun c_6 => ?_)
      · refine lv_aload_n hx hb dX2_count_19 rfl (lv_at hl 0 rfl) ?_
        refine va_get (D := D) (ci := 2) (v := .ref ca) (C := RX2) (T := TX2) (N := 7) hx hb hts inX2 hown hK hP 0 rfl rfl 0 (by decide) k_11 (fun _ h9 => h9) rfl dX2_count_20 ?_
        refine lv_iload_n hx hb dX2_count_23 rfl (lv_at hl 1 rfl) ?_
        refine kAald (k := 2) (b := q2) hx hb hK hP 1 1 rfl rfl (by decide) (by omega) (by omega) (rfl) dX2_count_24 ?_
        refine lv_astore_n (lv' := [(3, .ref q2), (0, .ref bq), (1, .int 2), (2, .int (nI 2))]) hx hb dX2_count_25 rfl hl (by decide) rfl (fun ls hl => ?_)
        refine lv_iload_n hx hb dX2_count_26 rfl (lv_at hl 3 rfl) ?_
        refine lv_tableIn (tgt := 74) hx hb dX2_count_27 (by decide) (by decide) rfl (by decide) ?_
        refine lv_aload_n hx hb dX2_count_74 rfl (lv_at hl 0 rfl) ?_
        refine va_getN (D := D) (ci := 0) (v := .ref ro) (C := RX0) (T := TX0) (N := 11) (host := RX2) hx hb hts inX0 hown hK hP 2 rfl rfl 0 (by decide) (va_Nw.use rfl (hG.2.2.2.2.1 (89, "held", "LBranchFilters$Row;") (by decide))) (fun _ h9 => h9) rfl dX2_count_75 ?_
        refine kCallI (As := []) (wc := [(ro, .inr (1, [.ref rb, .int (nI (fN F))]))]) (wr := [(bq, .inr (2, [.ref ca, .ref mo, .ref re, .int st, .int en, .int fi, .int cm])), (ca, .inl (cF, 4, .inr (.inr (.inr (.inr (ch4 q0 q1 q2 q3)))))), (q2, .inr (0, [.ref ro, .ref pa, .int (nI (fKn F)), .int (fDs F), .int (fEn F), .int (fPl F), .int (fHe F), .int (fGv F), .int (fRp F), .int (fMk F), .int (fLa F)]))]) (ws' := [(bq, .inr (2, [.ref ca, .ref mo, .ref re, .int st, .int en, .int fi, .int cm])), (ca, .inl (cF, 4, .inr (.inr (.inr (.inr (ch4 q0 q1 q2 q3)))))), (q2, .inr (0, [.ref ro, .ref pa, .int (nI (fKn F)), .int (fDs F), .int (fEn F), .int (fPl F), .int (fHe F), .int (fGv F), .int (fRp F), .int (fMk F), .int (fLa F)])), (ro, .inr (1, [.ref rb, .int (nI (fN F))]))]) (ci := 1) (C := RX1) ⟨hx, hb, hml, hown, hts⟩ (c_X1_size l D cI cF cJ ro rb (nI (fN F)) ) (cwV 0 hts gX2_count_X1_size rfl rfl rfl (by decide +kernel) ⟨Nat.le_of_ble_eq_true rfl, Nat.le_of_ble_eq_true rfl⟩) hK hP hD hS hA [3] [0, 1, 2] [0, 1, 2, 3] rfl rfl rfl rfl (by decide) rfl rfl rfl rfl rfl hl.1 (Nat.le_of_ble_eq_true rfl) ⟨Nat.zero_le _, Nat.zero_le _⟩ dX2_count_78 (fun H locs hP hD hS => ?_) rfl
        exact hret _ _ _ _ _ dX2_count_81 rfl hP hD hS
      · exact absurd c_6 (by decide)
  · refine lv_iload_n hx hb dX2_count_0 rfl (lv_at hl 1 rfl) ?_
    refine lv_if_lt (tgt := 9) hx hb dX2_count_1 (by decide) (fun c_7 => ?_) (fun c_7 => ?_)
    · exact absurd c_7 (by decide)
    · refine lv_iload_n hx hb dX2_count_4 rfl (lv_at hl 1 rfl) ?_
      refine lv_iconst (v := 4) hx hb dX2_count_5 (by decide) ?_
      refine lv_icmp_lt (tgt := 19) hx hb dX2_count_6 (by decide) (fun c_8 => ?_) (fun c_8 => ?_)
      · refine lv_aload_n hx hb dX2_count_19 rfl (lv_at hl 0 rfl) ?_
        refine va_get (D := D) (ci := 2) (v := .ref ca) (C := RX2) (T := TX2) (N := 7) hx hb hts inX2 hown hK hP 0 rfl rfl 0 (by decide) k_11 (fun _ h9 => h9) rfl dX2_count_20 ?_
        refine lv_iload_n hx hb dX2_count_23 rfl (lv_at hl 1 rfl) ?_
        refine kAald (k := 2) (b := q2) hx hb hK hP 1 1 rfl rfl (by decide) (by omega) (by omega) (rfl) dX2_count_24 ?_
        refine lv_astore_n (lv' := [(3, .ref q2), (0, .ref bq), (1, .int 2), (2, .int (nI 3))]) hx hb dX2_count_25 rfl hl (by decide) rfl (fun ls hl => ?_)
        refine lv_iload_n hx hb dX2_count_26 rfl (lv_at hl 3 rfl) ?_
        refine lv_tableIn (tgt := 82) hx hb dX2_count_27 (by decide) (by decide) rfl (by decide) ?_
        refine lv_aload_n hx hb dX2_count_82 rfl (lv_at hl 0 rfl) ?_
        refine va_getN (D := D) (ci := 0) (v := .int (fGv F)) (C := RX0) (T := TX0) (N := 11) (host := RX2) hx hb hts inX0 hown hK hP 2 rfl rfl 7 (by decide) (va_Nw.use rfl (hG.2.2.2.2.1 (92, "given", "I") (by decide))) (fun _ h9 => h9) rfl dX2_count_83 ?_
        exact hret _ _ _ _ _ dX2_count_86 rfl hP hD hS
      · exact absurd c_8 (by decide)
  · refine lv_iload_n hx hb dX2_count_0 rfl (lv_at hl 1 rfl) ?_
    refine lv_if_lt (tgt := 9) hx hb dX2_count_1 (by decide) (fun c_9 => ?_) (fun c_9 => ?_)
    · exact absurd c_9 (by decide)
    · refine lv_iload_n hx hb dX2_count_4 rfl (lv_at hl 1 rfl) ?_
      refine lv_iconst (v := 4) hx hb dX2_count_5 (by decide) ?_
      refine lv_icmp_lt (tgt := 19) hx hb dX2_count_6 (by decide) (fun c_10 => ?_) (fun c_10 => ?_)
      · refine lv_aload_n hx hb dX2_count_19 rfl (lv_at hl 0 rfl) ?_
        refine va_get (D := D) (ci := 2) (v := .ref ca) (C := RX2) (T := TX2) (N := 7) hx hb hts inX2 hown hK hP 0 rfl rfl 0 (by decide) k_11 (fun _ h9 => h9) rfl dX2_count_20 ?_
        refine lv_iload_n hx hb dX2_count_23 rfl (lv_at hl 1 rfl) ?_
        refine kAald (k := 2) (b := q2) hx hb hK hP 1 1 rfl rfl (by decide) (by omega) (by omega) (rfl) dX2_count_24 ?_
        refine lv_astore_n (lv' := [(3, .ref q2), (0, .ref bq), (1, .int 2), (2, .int (nI 4))]) hx hb dX2_count_25 rfl hl (by decide) rfl (fun ls hl => ?_)
        refine lv_iload_n hx hb dX2_count_26 rfl (lv_at hl 3 rfl) ?_
        refine lv_tableIn (tgt := 87) hx hb dX2_count_27 (by decide) (by decide) rfl (by decide) ?_
        refine lv_aload_n hx hb dX2_count_87 rfl (lv_at hl 0 rfl) ?_
        refine va_getN (D := D) (ci := 0) (v := .int (fRp F)) (C := RX0) (T := TX0) (N := 11) (host := RX2) hx hb hts inX0 hown hK hP 2 rfl rfl 8 (by decide) (va_Nw.use rfl (hG.2.2.2.2.1 (95, "replaced", "I") (by decide))) (fun _ h9 => h9) rfl dX2_count_88 ?_
        exact hret _ _ _ _ _ dX2_count_91 rfl hP hD hS
      · exact absurd c_10 (by decide)
  · refine lv_iload_n hx hb dX2_count_0 rfl (lv_at hl 1 rfl) ?_
    refine lv_if_lt (tgt := 9) hx hb dX2_count_1 (by decide) (fun c_11 => ?_) (fun c_11 => ?_)
    · exact absurd c_11 (by decide)
    · refine lv_iload_n hx hb dX2_count_4 rfl (lv_at hl 1 rfl) ?_
      refine lv_iconst (v := 4) hx hb dX2_count_5 (by decide) ?_
      refine lv_icmp_lt (tgt := 19) hx hb dX2_count_6 (by decide) (fun c_12 => ?_) (fun c_12 => ?_)
      · refine lv_aload_n hx hb dX2_count_19 rfl (lv_at hl 0 rfl) ?_
        refine va_get (D := D) (ci := 2) (v := .ref ca) (C := RX2) (T := TX2) (N := 7) hx hb hts inX2 hown hK hP 0 rfl rfl 0 (by decide) k_11 (fun _ h9 => h9) rfl dX2_count_20 ?_
        refine lv_iload_n hx hb dX2_count_23 rfl (lv_at hl 1 rfl) ?_
        refine kAald (k := 2) (b := q2) hx hb hK hP 1 1 rfl rfl (by decide) (by omega) (by omega) (rfl) dX2_count_24 ?_
        refine lv_astore_n (lv' := [(3, .ref q2), (0, .ref bq), (1, .int 2), (2, .int (nI 5))]) hx hb dX2_count_25 rfl hl (by decide) rfl (fun ls hl => ?_)
        refine lv_iload_n hx hb dX2_count_26 rfl (lv_at hl 3 rfl) ?_
        refine lv_tableIn (tgt := 92) hx hb dX2_count_27 (by decide) (by decide) rfl (by decide) ?_
        refine lv_aload_n hx hb dX2_count_92 rfl (lv_at hl 0 rfl) ?_
        refine va_getN (D := D) (ci := 0) (v := .int (fMk F)) (C := RX0) (T := TX0) (N := 11) (host := RX2) hx hb hts inX0 hown hK hP 2 rfl rfl 9 (by decide) (va_Nw.use rfl (hG.2.2.2.2.1 (98, "mask", "I") (by decide))) (fun _ h9 => h9) rfl dX2_count_93 ?_
        exact hret _ _ _ _ _ dX2_count_96 rfl hP hD hS
      · exact absurd c_12 (by decide)

set_option maxHeartbeats 4000000 in
set_option maxRecDepth 100000 in
/-- BranchFilters.count(3, wn) -/
theorem c_count3 (l : Launch) (D : va_G) (cI cF cJ : ClassId) (nd : Nat) (bq ca q0 q1 q2 q3 ro rb pa mo re wn : Nat) (st en fi cm : Int32) (F : FS) (hw : wn < 6) : kIG nd l yX2_count wsX2_count ({ frames := 1, cells := 0, slots := 0, locals := 20 }) D (kTy cI cF cJ) [.ref bq, .int 3, .int (nI wn)] [(bq, .inr (2, [.ref ca, .ref mo, .ref re, .int st, .int en, .int fi, .int cm])), (ca, .inl (cF, 4, .inr (.inr (.inr (.inr (ch4 q0 q1 q2 q3)))))), (q3, .inr (0, [.ref ro, .ref pa, .int (nI (fKn F)), .int (fDs F), .int (fEn F), .int (fPl F), .int (fHe F), .int (fGv F), .int (fRp F), .int (fMk F), .int (fLa F)])), (ro, .inr (1, [.ref rb, .int (nI (fN F))]))] [(bq, .inr (2, [.ref ca, .ref mo, .ref re, .int st, .int en, .int fi, .int cm])), (ca, .inl (cF, 4, .inr (.inr (.inr (.inr (ch4 q0 q1 q2 q3)))))), (q3, .inr (0, [.ref ro, .ref pa, .int (nI (fKn F)), .int (fDs F), .int (fEn F), .int (fPl F), .int (fHe F), .int (fGv F), .int (fRp F), .int (fMk F), .int (fLa F)])), (ro, .inr (1, [.ref rb, .int (nI (fN F))]))] (cCnt F wn) := by
  refine kIG_of (cc := cX2_count) (nL := 4) (ty := .int) (own := RX2) (lv := [(0, .ref bq), (1, .int 3), (2, .int (nI wn))]) (by decide) rfl rfl (Nat.le_of_ble_eq_true rfl) rfl (rfl) ?_
  intro p e s m args below meth c A ls Q C hA hG hK hP hD hS hl hret
  obtain ⟨hx, hb, hr, hml, hown, hts, hlocks⟩ := C
  have k_11 := hts (.fieldLink RX2 11 "BranchFilters" "chain" "[LBranchFilters$Filter;") (by decide +kernel)
  have inX0 : ∀ w ∈ wsX00, w ∈ wsX2_count := by decide +kernel
  have inX2 : ∀ w ∈ wsX20, w ∈ wsX2_count := by decide +kernel
  rcases (show wn = 0 ∨ wn = 1 ∨ wn = 2 ∨ wn = 3 ∨ wn = 4 ∨ wn = 5 by omega) with rfl | rfl | rfl | rfl | rfl | rfl
  · refine lv_iload_n hx hb dX2_count_0 rfl (lv_at hl 1 rfl) ?_
    refine lv_if_lt (tgt := 9) hx hb dX2_count_1 (by decide) (fun c_1 => ?_) (fun c_1 => ?_)
    · exact absurd c_1 (by decide)
    · refine lv_iload_n hx hb dX2_count_4 rfl (lv_at hl 1 rfl) ?_
      refine lv_iconst (v := 4) hx hb dX2_count_5 (by decide) ?_
      refine lv_icmp_lt (tgt := 19) hx hb dX2_count_6 (by decide) (fun c_2 => ?_) (fun c_2 => ?_)
      · refine lv_aload_n hx hb dX2_count_19 rfl (lv_at hl 0 rfl) ?_
        refine va_get (D := D) (ci := 2) (v := .ref ca) (C := RX2) (T := TX2) (N := 7) hx hb hts inX2 hown hK hP 0 rfl rfl 0 (by decide) k_11 (fun _ h9 => h9) rfl dX2_count_20 ?_
        refine lv_iload_n hx hb dX2_count_23 rfl (lv_at hl 1 rfl) ?_
        refine kAald (k := 3) (b := q3) hx hb hK hP 1 1 rfl rfl (by decide) (by omega) (by omega) (rfl) dX2_count_24 ?_
        refine lv_astore_n (lv' := [(3, .ref q3), (0, .ref bq), (1, .int 3), (2, .int (nI 0))]) hx hb dX2_count_25 rfl hl (by decide) rfl (fun ls hl => ?_)
        refine lv_iload_n hx hb dX2_count_26 rfl (lv_at hl 3 rfl) ?_
        refine lv_tableIn (tgt := 64) hx hb dX2_count_27 (by decide) (by decide) rfl (by decide) ?_
        refine lv_aload_n hx hb dX2_count_64 rfl (lv_at hl 0 rfl) ?_
        refine va_getN (D := D) (ci := 0) (v := .int (nI (fKn F))) (C := RX0) (T := TX0) (N := 11) (host := RX2) hx hb hts inX0 hown hK hP 2 rfl rfl 2 (by decide) (va_Nw.use rfl (hG.2.2.2.2.1 (83, "kind", "I") (by decide))) (fun _ h9 => h9) rfl dX2_count_65 ?_
        exact hret _ _ _ _ _ dX2_count_68 rfl hP hD hS
      · exact absurd c_2 (by decide)
  · refine lv_iload_n hx hb dX2_count_0 rfl (lv_at hl 1 rfl) ?_
    refine lv_if_lt (tgt := 9) hx hb dX2_count_1 (by decide) (fun c_3 => ?_) (fun c_3 => ?_)
    · exact absurd c_3 (by decide)
    · refine lv_iload_n hx hb dX2_count_4 rfl (lv_at hl 1 rfl) ?_
      refine lv_iconst (v := 4) hx hb dX2_count_5 (by decide) ?_
      refine lv_icmp_lt (tgt := 19) hx hb dX2_count_6 (by decide) (fun c_4 => ?_) (fun c_4 => ?_)
      · refine lv_aload_n hx hb dX2_count_19 rfl (lv_at hl 0 rfl) ?_
        refine va_get (D := D) (ci := 2) (v := .ref ca) (C := RX2) (T := TX2) (N := 7) hx hb hts inX2 hown hK hP 0 rfl rfl 0 (by decide) k_11 (fun _ h9 => h9) rfl dX2_count_20 ?_
        refine lv_iload_n hx hb dX2_count_23 rfl (lv_at hl 1 rfl) ?_
        refine kAald (k := 3) (b := q3) hx hb hK hP 1 1 rfl rfl (by decide) (by omega) (by omega) (rfl) dX2_count_24 ?_
        refine lv_astore_n (lv' := [(3, .ref q3), (0, .ref bq), (1, .int 3), (2, .int (nI 1))]) hx hb dX2_count_25 rfl hl (by decide) rfl (fun ls hl => ?_)
        refine lv_iload_n hx hb dX2_count_26 rfl (lv_at hl 3 rfl) ?_
        refine lv_tableIn (tgt := 69) hx hb dX2_count_27 (by decide) (by decide) rfl (by decide) ?_
        refine lv_aload_n hx hb dX2_count_69 rfl (lv_at hl 0 rfl) ?_
        refine va_getN (D := D) (ci := 0) (v := .int (fDs F)) (C := RX0) (T := TX0) (N := 11) (host := RX2) hx hb hts inX0 hown hK hP 2 rfl rfl 3 (by decide) (va_Nw.use rfl (hG.2.2.2.2.1 (86, "distance", "I") (by decide))) (fun _ h9 => h9) rfl dX2_count_70 ?_
        exact hret _ _ _ _ _ dX2_count_73 rfl hP hD hS
      · exact absurd c_4 (by decide)
  · refine lv_iload_n hx hb dX2_count_0 rfl (lv_at hl 1 rfl) ?_
    refine lv_if_lt (tgt := 9) hx hb dX2_count_1 (by decide) (fun c_5 => ?_) (fun c_5 => ?_)
    · exact absurd c_5 (by decide)
    · refine lv_iload_n hx hb dX2_count_4 rfl (lv_at hl 1 rfl) ?_
      refine lv_iconst (v := 4) hx hb dX2_count_5 (by decide) ?_
      refine lv_icmp_lt (tgt := 19) hx hb dX2_count_6 (by decide) (fun c_6 => ?_) (fun c_6 => ?_)
      · refine lv_aload_n hx hb dX2_count_19 rfl (lv_at hl 0 rfl) ?_
        refine va_get (D := D) (ci := 2) (v := .ref ca) (C := RX2) (T := TX2) (N := 7) hx hb hts inX2 hown hK hP 0 rfl rfl 0 (by decide) k_11 (fun _ h9 => h9) rfl dX2_count_20 ?_
        refine lv_iload_n hx hb dX2_count_23 rfl (lv_at hl 1 rfl) ?_
        refine kAald (k := 3) (b := q3) hx hb hK hP 1 1 rfl rfl (by decide) (by omega) (by omega) (rfl) dX2_count_24 ?_
        refine lv_astore_n (lv' := [(3, .ref q3), (0, .ref bq), (1, .int 3), (2, .int (nI 2))]) hx hb dX2_count_25 rfl hl (by decide) rfl (fun ls hl => ?_)
        refine lv_iload_n hx hb dX2_count_26 rfl (lv_at hl 3 rfl) ?_
        refine lv_tableIn (tgt := 74) hx hb dX2_count_27 (by decide) (by decide) rfl (by decide) ?_
        refine lv_aload_n hx hb dX2_count_74 rfl (lv_at hl 0 rfl) ?_
        refine va_getN (D := D) (ci := 0) (v := .ref ro) (C := RX0) (T := TX0) (N := 11) (host := RX2) hx hb hts inX0 hown hK hP 2 rfl rfl 0 (by decide) (va_Nw.use rfl (hG.2.2.2.2.1 (89, "held", "LBranchFilters$Row;") (by decide))) (fun _ h9 => h9) rfl dX2_count_75 ?_
        refine kCallI (As := []) (wc := [(ro, .inr (1, [.ref rb, .int (nI (fN F))]))]) (wr := [(bq, .inr (2, [.ref ca, .ref mo, .ref re, .int st, .int en, .int fi, .int cm])), (ca, .inl (cF, 4, .inr (.inr (.inr (.inr (ch4 q0 q1 q2 q3)))))), (q3, .inr (0, [.ref ro, .ref pa, .int (nI (fKn F)), .int (fDs F), .int (fEn F), .int (fPl F), .int (fHe F), .int (fGv F), .int (fRp F), .int (fMk F), .int (fLa F)]))]) (ws' := [(bq, .inr (2, [.ref ca, .ref mo, .ref re, .int st, .int en, .int fi, .int cm])), (ca, .inl (cF, 4, .inr (.inr (.inr (.inr (ch4 q0 q1 q2 q3)))))), (q3, .inr (0, [.ref ro, .ref pa, .int (nI (fKn F)), .int (fDs F), .int (fEn F), .int (fPl F), .int (fHe F), .int (fGv F), .int (fRp F), .int (fMk F), .int (fLa F)])), (ro, .inr (1, [.ref rb, .int (nI (fN F))]))]) (ci := 1) (C := RX1) ⟨hx, hb, hml, hown, hts⟩ (c_X1_size l D cI cF cJ ro rb (nI (fN F)) ) (cwV 0 hts gX2_count_X1_size rfl rfl rfl (by decide +kernel) ⟨Nat.le_of_ble_eq_true rfl, Nat.le_of_ble_eq_true rfl⟩) hK hP hD hS hA [3] [0, 1, 2] [0, 1, 2, 3] rfl rfl rfl rfl (by decide) rfl rfl rfl rfl rfl hl.1 (Nat.le_of_ble_eq_true rfl) ⟨Nat.zero_le _, Nat.zero_le _⟩ dX2_count_78 (fun H locs hP hD hS => ?_) rfl
        exact hret _ _ _ _ _ dX2_count_81 rfl hP hD hS
      · exact absurd c_6 (by decide)
  · refine lv_iload_n hx hb dX2_count_0 rfl (lv_at hl 1 rfl) ?_
    refine lv_if_lt (tgt := 9) hx hb dX2_count_1 (by decide) (fun c_7 => ?_) (fun c_7 => ?_)
    · exact absurd c_7 (by decide)
    · refine lv_iload_n hx hb dX2_count_4 rfl (lv_at hl 1 rfl) ?_
      refine lv_iconst (v := 4) hx hb dX2_count_5 (by decide) ?_
      refine lv_icmp_lt (tgt := 19) hx hb dX2_count_6 (by decide) (fun c_8 => ?_) (fun c_8 => ?_)
      · refine lv_aload_n hx hb dX2_count_19 rfl (lv_at hl 0 rfl) ?_
        refine va_get (D := D) (ci := 2) (v := .ref ca) (C := RX2) (T := TX2) (N := 7) hx hb hts inX2 hown hK hP 0 rfl rfl 0 (by decide) k_11 (fun _ h9 => h9) rfl dX2_count_20 ?_
        refine lv_iload_n hx hb dX2_count_23 rfl (lv_at hl 1 rfl) ?_
        refine kAald (k := 3) (b := q3) hx hb hK hP 1 1 rfl rfl (by decide) (by omega) (by omega) (rfl) dX2_count_24 ?_
        refine lv_astore_n (lv' := [(3, .ref q3), (0, .ref bq), (1, .int 3), (2, .int (nI 3))]) hx hb dX2_count_25 rfl hl (by decide) rfl (fun ls hl => ?_)
        refine lv_iload_n hx hb dX2_count_26 rfl (lv_at hl 3 rfl) ?_
        refine lv_tableIn (tgt := 82) hx hb dX2_count_27 (by decide) (by decide) rfl (by decide) ?_
        refine lv_aload_n hx hb dX2_count_82 rfl (lv_at hl 0 rfl) ?_
        refine va_getN (D := D) (ci := 0) (v := .int (fGv F)) (C := RX0) (T := TX0) (N := 11) (host := RX2) hx hb hts inX0 hown hK hP 2 rfl rfl 7 (by decide) (va_Nw.use rfl (hG.2.2.2.2.1 (92, "given", "I") (by decide))) (fun _ h9 => h9) rfl dX2_count_83 ?_
        exact hret _ _ _ _ _ dX2_count_86 rfl hP hD hS
      · exact absurd c_8 (by decide)
  · refine lv_iload_n hx hb dX2_count_0 rfl (lv_at hl 1 rfl) ?_
    refine lv_if_lt (tgt := 9) hx hb dX2_count_1 (by decide) (fun c_9 => ?_) (fun c_9 => ?_)
    · exact absurd c_9 (by decide)
    · refine lv_iload_n hx hb dX2_count_4 rfl (lv_at hl 1 rfl) ?_
      refine lv_iconst (v := 4) hx hb dX2_count_5 (by decide) ?_
      refine lv_icmp_lt (tgt := 19) hx hb dX2_count_6 (by decide) (fun c_10 => ?_) (fun c_10 => ?_)
      · refine lv_aload_n hx hb dX2_count_19 rfl (lv_at hl 0 rfl) ?_
        refine va_get (D := D) (ci := 2) (v := .ref ca) (C := RX2) (T := TX2) (N := 7) hx hb hts inX2 hown hK hP 0 rfl rfl 0 (by decide) k_11 (fun _ h9 => h9) rfl dX2_count_20 ?_
        refine lv_iload_n hx hb dX2_count_23 rfl (lv_at hl 1 rfl) ?_
        refine kAald (k := 3) (b := q3) hx hb hK hP 1 1 rfl rfl (by decide) (by omega) (by omega) (rfl) dX2_count_24 ?_
        refine lv_astore_n (lv' := [(3, .ref q3), (0, .ref bq), (1, .int 3), (2, .int (nI 4))]) hx hb dX2_count_25 rfl hl (by decide) rfl (fun ls hl => ?_)
        refine lv_iload_n hx hb dX2_count_26 rfl (lv_at hl 3 rfl) ?_
        refine lv_tableIn (tgt := 87) hx hb dX2_count_27 (by decide) (by decide) rfl (by decide) ?_
        refine lv_aload_n hx hb dX2_count_87 rfl (lv_at hl 0 rfl) ?_
        refine va_getN (D := D) (ci := 0) (v := .int (fRp F)) (C := RX0) (T := TX0) (N := 11) (host := RX2) hx hb hts inX0 hown hK hP 2 rfl rfl 8 (by decide) (va_Nw.use rfl (hG.2.2.2.2.1 (95, "replaced", "I") (by decide))) (fun _ h9 => h9) rfl dX2_count_88 ?_
        exact hret _ _ _ _ _ dX2_count_91 rfl hP hD hS
      · exact absurd c_10 (by decide)
  · refine lv_iload_n hx hb dX2_count_0 rfl (lv_at hl 1 rfl) ?_
    refine lv_if_lt (tgt := 9) hx hb dX2_count_1 (by decide) (fun c_11 => ?_) (fun c_11 => ?_)
    · exact absurd c_11 (by decide)
    · refine lv_iload_n hx hb dX2_count_4 rfl (lv_at hl 1 rfl) ?_
      refine lv_iconst (v := 4) hx hb dX2_count_5 (by decide) ?_
      refine lv_icmp_lt (tgt := 19) hx hb dX2_count_6 (by decide) (fun c_12 => ?_) (fun c_12 => ?_)
      · refine lv_aload_n hx hb dX2_count_19 rfl (lv_at hl 0 rfl) ?_
        refine va_get (D := D) (ci := 2) (v := .ref ca) (C := RX2) (T := TX2) (N := 7) hx hb hts inX2 hown hK hP 0 rfl rfl 0 (by decide) k_11 (fun _ h9 => h9) rfl dX2_count_20 ?_
        refine lv_iload_n hx hb dX2_count_23 rfl (lv_at hl 1 rfl) ?_
        refine kAald (k := 3) (b := q3) hx hb hK hP 1 1 rfl rfl (by decide) (by omega) (by omega) (rfl) dX2_count_24 ?_
        refine lv_astore_n (lv' := [(3, .ref q3), (0, .ref bq), (1, .int 3), (2, .int (nI 5))]) hx hb dX2_count_25 rfl hl (by decide) rfl (fun ls hl => ?_)
        refine lv_iload_n hx hb dX2_count_26 rfl (lv_at hl 3 rfl) ?_
        refine lv_tableIn (tgt := 92) hx hb dX2_count_27 (by decide) (by decide) rfl (by decide) ?_
        refine lv_aload_n hx hb dX2_count_92 rfl (lv_at hl 0 rfl) ?_
        refine va_getN (D := D) (ci := 0) (v := .int (fMk F)) (C := RX0) (T := TX0) (N := 11) (host := RX2) hx hb hts inX0 hown hK hP 2 rfl rfl 9 (by decide) (va_Nw.use rfl (hG.2.2.2.2.1 (98, "mask", "I") (by decide))) (fun _ h9 => h9) rfl dX2_count_93 ?_
        exact hret _ _ _ _ _ dX2_count_96 rfl hP hD hS
      · exact absurd c_12 (by decide)

set_option maxHeartbeats 4000000 in
set_option maxRecDepth 100000 in
/-- BranchFilters.count that is refused -/
theorem t_count (l : Launch) (h0l : l.stackTraces = false) (D : va_G) (cI cF cJ : ClassId) (nd : Nat) (bq ca q0 q1 q2 q3 mo re : Nat) (st en fi cm x y : Int32) (hbad : x < 0 ∨ ¬ x < 4 ∨ y.toInt < 0 ∨ 5 < y.toInt) : kT nd l yX2_count wsX2_count ({ frames := 6, cells := 1, slots := 6, locals := 90 }) D (kTy cI cF cJ) [.ref bq, .int x, .int y] [(bq, .inr (2, [.ref ca, .ref mo, .ref re, .int st, .int en, .int fi, .int cm])), (ca, .inl (cF, 4, .inr (.inr (.inr (.inr (ch4 q0 q1 q2 q3))))))] kE1 := by
  refine kT_of (cc := cX2_count) (nL := 4) (own := RX2) (lv := [(0, .ref bq), (1, .int x), (2, .int y)]) (by decide) rfl rfl (Nat.le_of_ble_eq_true rfl) rfl ?_
  intro p e s m args below meth c A ls Qc C hex hA hG hK hP hD hS hl
  obtain ⟨hx, hb, hr, hml, hown, hts, hlocks⟩ := C
  have k_11 := hts (.fieldLink RX2 11 "BranchFilters" "chain" "[LBranchFilters$Filter;") (by decide +kernel)
  have k_32 := hts (.classLink RX2 32 kE1) (by decide +kernel)
  have k_ini1 := hts (.initialized kE1) (by decide +kernel)
  have inX2 : ∀ w ∈ wsX20, w ∈ wsX2_count := by decide +kernel
  refine lv_iload_n hx hb dX2_count_0 rfl (lv_at hl 1 rfl) ?_
  refine lv_if_lt (tgt := 9) hx hb dX2_count_1 (by decide) (fun c_1 => ?_) (fun c_1 => ?_)
  · exact kThrow (E := kE1) (text := "no such filter") (is := 34) (ik := 32) (ic := 36) h0l hx hb hml hown hts hlocks hex (by decide) (by decide) (by decide) k_32 k_ini1 (fun w h => List.mem_cons_of_mem _ (List.mem_append_right _ h)) kX1a kX1b hG hK hP hD hS hl.1 (Nat.le_of_ble_eq_true rfl) (Nat.le_of_ble_eq_true rfl) (Nat.le_refl _) (Nat.le_refl _) dX2_count_9 dX2_count_12 dX2_count_13 dX2_count_15 dX2_count_18
  · refine lv_iload_n hx hb dX2_count_4 rfl (lv_at hl 1 rfl) ?_
    refine lv_iconst (v := 4) hx hb dX2_count_5 (by decide) ?_
    refine lv_icmp_lt (tgt := 19) hx hb dX2_count_6 (by decide) (fun c_2 => ?_) (fun c_2 => ?_)
    · obtain ⟨jj, hj9, ejj⟩ := nI_of c_1
      have hj4 : jj < 4 := (kLt (b := 4) ejj rfl hj9 (by omega)).mp c_2
      have hy : y.toInt < 0 ∨ 5 < y.toInt := by
        rcases hbad with h9 | h9 | h9
        · exact absurd h9 c_1
        · exact absurd c_2 h9
        · exact h9
      subst ejj
      obtain ⟨qq, hqq⟩ : ∃ qq, ch4 q0 q1 q2 q3 jj = some qq := by rcases (show jj = 0 ∨ jj = 1 ∨ jj = 2 ∨ jj = 3 by omega) with rfl | rfl | rfl | rfl <;> exact ⟨_, rfl⟩
      refine lv_aload_n hx hb dX2_count_19 rfl (lv_at hl 0 rfl) ?_
      refine va_get (D := D) (ci := 2) (v := .ref ca) (C := RX2) (T := TX2) (N := 7) hx hb hts inX2 hown hK hP 0 rfl rfl 0 (by decide) k_11 (fun _ h9 => h9) rfl dX2_count_20 ?_
      refine lv_iload_n hx hb dX2_count_23 rfl (lv_at hl 1 rfl) ?_
      refine kAald (k := jj) (b := qq) hx hb hK hP 1 1 rfl rfl (rfl) (hj4) (by omega) (hqq) dX2_count_24 ?_
      refine lv_astore_n (lv' := [(3, .ref qq), (0, .ref bq), (1, .int (nI jj)), (2, .int y)]) hx hb dX2_count_25 rfl hl (by decide) rfl (fun ls hl => ?_)
      refine lv_iload_n hx hb dX2_count_26 rfl (lv_at hl 3 rfl) ?_
      refine lv_tableOut (tgt := 97) hx hb dX2_count_27 (hy) (by decide) ?_
      exact kThrow (E := kE1) (text := "no such count") (is := 101) (ik := 32) (ic := 36) h0l hx hb hml hown hts hlocks hex (by decide) (by decide) (by decide) k_32 k_ini1 (fun w h => List.mem_cons_of_mem _ (List.mem_append_right _ h)) kX1a kX1b hG hK hP hD hS hl.1 (Nat.le_of_ble_eq_true rfl) (Nat.le_of_ble_eq_true rfl) (Nat.le_refl _) (Nat.le_refl _) dX2_count_97 dX2_count_100 dX2_count_101 dX2_count_103 dX2_count_106
    · exact kThrow (E := kE1) (text := "no such filter") (is := 34) (ik := 32) (ic := 36) h0l hx hb hml hown hts hlocks hex (by decide) (by decide) (by decide) k_32 k_ini1 (fun w h => List.mem_cons_of_mem _ (List.mem_append_right _ h)) kX1a kX1b hG hK hP hD hS hl.1 (Nat.le_of_ble_eq_true rfl) (Nat.le_of_ble_eq_true rfl) (Nat.le_refl _) (Nat.le_refl _) dX2_count_9 dX2_count_12 dX2_count_13 dX2_count_15 dX2_count_18

set_option maxHeartbeats 4000000 in
set_option maxRecDepth 100000 in
/-- BranchFilters.word(j) -/
theorem c_X2_word (l : Launch) (D : va_G) (cI cF cJ : ClassId) (nd : Nat) (bq ca mo re rs rn : Nat) (st en fi cm : Int32) (rf : Nat → Int32) (j : Nat) (hrn : rn ≤ 2000) (hj : j + 4 ≤ rn) : kIG nd l yX2_word wsX2_word ({ frames := 1, cells := 0, slots := 0, locals := 21 }) D (kTy cI cF cJ) [.ref bq, .int (nI j)] [(bq, .inr (2, [.ref ca, .ref mo, .ref re, .int st, .int en, .int fi, .int cm])), (re, .inr (1, [.ref rs, .int (nI rn)])), (rs, .inl (cI, 2000, .inl rf))] [(bq, .inr (2, [.ref ca, .ref mo, .ref re, .int st, .int en, .int fi, .int cm])), (re, .inr (1, [.ref rs, .int (nI rn)])), (rs, .inl (cI, 2000, .inl rf))] (cLo rf j) := by
  refine kIG_of (cc := cX2_word) (nL := 2) (ty := .int) (own := RX2) (lv := [(0, .ref bq), (1, .int (nI j))]) (by decide) rfl rfl (Nat.le_of_ble_eq_true rfl) rfl (rfl) ?_
  intro p e s m args below meth c A ls Q C hA hG hK hP hD hS hl hret
  obtain ⟨hx, hb, hr, hml, hown, hts, hlocks⟩ := C
  have k_25 := hts (.fieldLink RX2 25 "BranchFilters" "result" "LBranchFilters$Row;") (by decide +kernel)
  have inX2 : ∀ w ∈ wsX20, w ∈ wsX2_word := by decide +kernel
  refine lv_iload_n hx hb dX2_word_0 rfl (lv_at hl 1 rfl) ?_
  refine lv_if_lt (tgt := 17) hx hb dX2_word_1 (by decide) (fun c_1 => ?_) (fun c_1 => ?_)
  · exact absurd c_1 (nI_pos (by omega))
  · refine lv_iload_n hx hb dX2_word_4 rfl (lv_at hl 1 rfl) ?_
    refine lv_aload_n hx hb dX2_word_5 rfl (lv_at hl 0 rfl) ?_
    refine va_get (D := D) (ci := 2) (v := .ref re) (C := RX2) (T := TX2) (N := 7) hx hb hts inX2 hown hK hP 0 rfl rfl 2 (by decide) k_25 (fun _ h9 => h9) rfl dX2_word_6 ?_
    refine kCallI (As := []) (wc := [(re, .inr (1, [.ref rs, .int (nI rn)]))]) (wr := [(bq, .inr (2, [.ref ca, .ref mo, .ref re, .int st, .int en, .int fi, .int cm])), (rs, .inl (cI, 2000, .inl rf))]) (ws' := [(bq, .inr (2, [.ref ca, .ref mo, .ref re, .int st, .int en, .int fi, .int cm])), (re, .inr (1, [.ref rs, .int (nI rn)])), (rs, .inl (cI, 2000, .inl rf))]) (ci := 1) (C := RX1) ⟨hx, hb, hml, hown, hts⟩ (c_X1_size l D cI cF cJ re rs (nI rn) ) (cwV 0 hts gX2_word_X1_size rfl rfl rfl (by decide +kernel) ⟨Nat.le_of_ble_eq_true rfl, Nat.le_of_ble_eq_true rfl⟩) hK hP hD hS hA [1] [0, 2] [0, 2, 1] rfl rfl rfl rfl (by decide) rfl rfl rfl rfl rfl hl.1 (Nat.le_of_ble_eq_true rfl) ⟨Nat.zero_le _, Nat.zero_le _⟩ dX2_word_9 (fun H locs hP hD hS => ?_) rfl
    refine lv_iconst (v := 4) hx hb dX2_word_12 (by decide) ?_
    refine lv_isub hx hb dX2_word_13 ?_
    refine lv_icmp_le (tgt := 27) hx hb dX2_word_14 (by decide) (fun c_2 => ?_) (fun c_2 => ?_)
    · refine lv_aload_n hx hb dX2_word_27 rfl (lv_at hl 0 rfl) ?_
      refine va_get (D := D) (ci := 2) (v := .ref re) (C := RX2) (T := TX2) (N := 7) hx hb hts inX2 hown hK hP 0 rfl rfl 2 (by decide) k_25 (fun _ h9 => h9) rfl dX2_word_28 ?_
      refine lv_iload_n hx hb dX2_word_31 rfl (lv_at hl 1 rfl) ?_
      refine kCallI (As := [.int (nI j)]) (wc := [(re, .inr (1, [.ref rs, .int (nI rn)])), (rs, .inl (cI, 2000, .inl rf))]) (wr := [(bq, .inr (2, [.ref ca, .ref mo, .ref re, .int st, .int en, .int fi, .int cm]))]) (ws' := [(bq, .inr (2, [.ref ca, .ref mo, .ref re, .int st, .int en, .int fi, .int cm])), (re, .inr (1, [.ref rs, .int (nI rn)])), (rs, .inl (cI, 2000, .inl rf))]) (ci := 1) (C := RX1) ⟨hx, hb, hml, hown, hts⟩ (c_X1_lowestFirst l D cI cF cJ re rs 2000 j rf (nI rn) (by omega) (by omega)) (cwV 1 hts gX2_word_X1_lowestFirst rfl rfl rfl (by decide +kernel) ⟨Nat.le_of_ble_eq_true rfl, Nat.le_of_ble_eq_true rfl⟩) hK hP hD hS hA [1, 2] [0] [0, 1, 2] rfl rfl rfl rfl (by decide) rfl rfl rfl rfl rfl hl.1 (Nat.le_of_ble_eq_true rfl) ⟨Nat.zero_le _, Nat.zero_le _⟩ dX2_word_32 (fun H locs hP hD hS => ?_) rfl
      exact hret _ _ _ _ _ dX2_word_35 (rfl) (hP) (hD) hS
    · exact absurd (by rw [Int32.le_iff_toInt_le, show (4 : Int32) = nI 4 from rfl, pk_sub_toInt (by omega) (by omega), nI_toInt (by omega)]; omega) c_2

set_option maxHeartbeats 4000000 in
set_option maxRecDepth 100000 in
/-- BranchFilters.word that is refused -/
theorem t_word (l : Launch) (h0l : l.stackTraces = false) (D : va_G) (cI cF cJ : ClassId) (nd : Nat) (bq ca mo re rs rn : Nat) (st en fi cm : Int32) (rf : Nat → Int32) (x : Int32) (hbad : x < 0 ∨ ¬ x ≤ nI rn - 4) : kT nd l yX2_word wsX2_word ({ frames := 6, cells := 1, slots := 6, locals := 90 }) D (kTy cI cF cJ) [.ref bq, .int x] [(bq, .inr (2, [.ref ca, .ref mo, .ref re, .int st, .int en, .int fi, .int cm])), (re, .inr (1, [.ref rs, .int (nI rn)])), (rs, .inl (cI, 2000, .inl rf))] kE3 := by
  refine kT_of (cc := cX2_word) (nL := 2) (own := RX2) (lv := [(0, .ref bq), (1, .int x)]) (by decide) rfl rfl (Nat.le_of_ble_eq_true rfl) rfl ?_
  intro p e s m args below meth c A ls Qc C hex hA hG hK hP hD hS hl
  obtain ⟨hx, hb, hr, hml, hown, hts, hlocks⟩ := C
  have k_103 := hts (.classLink RX2 103 kE3) (by decide +kernel)
  have k_25 := hts (.fieldLink RX2 25 "BranchFilters" "result" "LBranchFilters$Row;") (by decide +kernel)
  have k_ini3 := hts (.initialized kE3) (by decide +kernel)
  have inX2 : ∀ w ∈ wsX20, w ∈ wsX2_word := by decide +kernel
  refine lv_iload_n hx hb dX2_word_0 rfl (lv_at hl 1 rfl) ?_
  refine lv_if_lt (tgt := 17) hx hb dX2_word_1 (by decide) (fun c_1 => ?_) (fun c_1 => ?_)
  · exact kThrow (E := kE3) (text := "not all four bytes are there") (is := 105) (ik := 103) (ic := 107) h0l hx hb hml hown hts hlocks hex (by decide) (by decide) (by decide) k_103 k_ini3 (fun w h => List.mem_cons_of_mem _ (List.mem_append_right _ h)) kX3a kX3b hG hK hP hD hS hl.1 (Nat.le_of_ble_eq_true rfl) (Nat.le_of_ble_eq_true rfl) (Nat.le_refl _) (Nat.le_refl _) dX2_word_17 dX2_word_20 dX2_word_21 dX2_word_23 dX2_word_26
  · refine lv_iload_n hx hb dX2_word_4 rfl (lv_at hl 1 rfl) ?_
    refine lv_aload_n hx hb dX2_word_5 rfl (lv_at hl 0 rfl) ?_
    refine va_get (D := D) (ci := 2) (v := .ref re) (C := RX2) (T := TX2) (N := 7) hx hb hts inX2 hown hK hP 0 rfl rfl 2 (by decide) k_25 (fun _ h9 => h9) rfl dX2_word_6 ?_
    refine kCallI (As := []) (wc := [(re, .inr (1, [.ref rs, .int (nI rn)]))]) (wr := [(bq, .inr (2, [.ref ca, .ref mo, .ref re, .int st, .int en, .int fi, .int cm])), (rs, .inl (cI, 2000, .inl rf))]) (ws' := [(bq, .inr (2, [.ref ca, .ref mo, .ref re, .int st, .int en, .int fi, .int cm])), (re, .inr (1, [.ref rs, .int (nI rn)])), (rs, .inl (cI, 2000, .inl rf))]) (ci := 1) (C := RX1) ⟨hx, hb, hml, hown, hts⟩ (c_X1_size l D cI cF cJ re rs (nI rn) ) (cwV 0 hts gX2_word_X1_size rfl rfl rfl (by decide +kernel) ⟨Nat.le_of_ble_eq_true rfl, Nat.le_of_ble_eq_true rfl⟩) hK hP hD hS hA [1] [0, 2] [0, 2, 1] rfl rfl rfl rfl (by decide) rfl rfl rfl rfl rfl hl.1 (Nat.le_of_ble_eq_true rfl) ⟨Nat.zero_le _, Nat.zero_le _⟩ dX2_word_9 (fun H locs hP hD hS => ?_) rfl
    refine lv_iconst (v := 4) hx hb dX2_word_12 (by decide) ?_
    refine lv_isub hx hb dX2_word_13 ?_
    refine lv_icmp_le (tgt := 27) hx hb dX2_word_14 (by decide) (fun c_2 => ?_) (fun c_2 => ?_)
    · rcases hbad with h9 | h9
      · exact absurd h9 c_1
      · exact absurd c_2 h9
    · exact kThrow (E := kE3) (text := "not all four bytes are there") (is := 105) (ik := 103) (ic := 107) h0l hx hb hml hown hts hlocks hex (by decide) (by decide) (by decide) k_103 k_ini3 (fun w h => List.mem_cons_of_mem _ (List.mem_append_right _ h)) kX3a kX3b hG hK hP hD hS hl.1 (Nat.le_of_ble_eq_true rfl) (Nat.le_of_ble_eq_true rfl) (Nat.le_refl _) (Nat.le_refl _) dX2_word_17 dX2_word_20 dX2_word_21 dX2_word_23 dX2_word_26
