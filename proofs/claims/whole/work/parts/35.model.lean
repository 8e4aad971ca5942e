/-! BranchFiltersModel: what the law calls -/
theorem rIn_nz {x y z : Int32} (h : ¬ rIn x y z = 0) : ¬ x < y ∧ ¬ z < x := by
  unfold rIn at h
  constructor
  · intro q; exact h (if_pos q)
  · intro q
    by_cases w : x < y
    · exact h (if_pos w)
    · exact h ((if_neg w).trans (if_pos q))
theorem rIn_04 : ∀ i, i < 4 → rIn (nI i) 0 3 = 1 := by decide +kernel
theorem rIn_08 : ∀ i, i < 8 → rIn (nI i) 0 7 = 1 := by decide +kernel
theorem rIn_06 : ∀ i, i < 6 → rIn (nI i) 0 5 = 1 := by decide +kernel
theorem rIn_17 : ∀ i, i < 17 → rIn (nI i) 0 16 = 1 := by decide +kernel
theorem rIn_33 : ∀ i, i < 33 → i = 0 ∨ rIn (nI i) 1 32 = 1 := by decide +kernel
theorem kLtS {x y : Int32} (a b : Int) (ha : x.toInt = a := by rfl) (hb : y.toInt = b := by rfl) : x < y ↔ a < b := by rw [Int32.lt_iff_toInt_lt, ha, hb]
theorem lt_of_nle {x : Int32} (y z : Int32) (h : ¬ y < x) (hz : z.toInt = y.toInt + 1) : x < z := by
  rw [Int32.lt_iff_toInt_lt] at h ⊢; omega
theorem byS : ∀ j, j < 16 → (24 - 8 * (nI j - nI j / 4 * 4) : Int32) = 24 ∨ (24 - 8 * (nI j - nI j / 4 * 4) : Int32) = 16 ∨ (24 - 8 * (nI j - nI j / 4 * 4) : Int32) = 8 ∨ (24 - 8 * (nI j - nI j / 4 * 4) : Int32) = 0 := by decide +kernel
theorem byE (v : Int32) {j : Nat} (hj : j < 16) : (v >>> ((24 - 8 * (nI j - nI j / 4 * 4)) &&& 31)) &&& 255 = kU v (24 - 8 * (nI j - nI j / 4 * 4)) &&& 255 := by
  rcases byS j hj with q | q | q | q <;> rw [q]
  · rw [bK24]; exact bS24 v
  · exact bS16 v
  · exact bS8 v
  · exact bU0 v
def mCnt (kf df mf gf uf xf : Nat → Int32) (i wn : Nat) : Int32 :=
  match wn with
  | 0 => kf i
  | 1 => df i
  | 2 => mf i
  | 3 => gf i
  | 4 => uf i
  | _ => if kf i = 2 then xf i else 0

set_option maxHeartbeats 4000000 in
set_option maxRecDepth 100000 in
theorem m_filter (l : Launch) (D : va_G) (cI cF cJ : ClassId) (mq ak ad ah am ap ag au ax al ai an ao : Nat) (fa st en cm fi im nm om : Int32) (i kn dn : Nat) (kf df mf pf gf uf xf lf : Nat → Int32) (hi : i < 4) (hkn : kn < 8) (hd1 : 1 ≤ dn) (hd2 : dn ≤ 32) : kV l yX3_filter wsX3_filter ({ frames := 1, cells := 0, slots := 0, locals := 22 }) D (kTy cI cF cJ) [.ref mq, .int (nI i), .int (nI kn), .int (nI dn)] [(mq, .inr (3, [.int fa, .ref ak, .ref ad, .int st, .int en, .int cm, .int fi, .ref ah, .ref am, .ref ap, .ref ag, .ref au, .ref ax, .ref al, .ref ai, .int im, .ref an, .int nm, .ref ao, .int om])), (ak, .inl (cI, 4, .inl kf)), (ad, .inl (cI, 4, .inl df)), (am, .inl (cI, 4, .inl mf)), (ap, .inl (cI, 128, .inl pf)), (ag, .inl (cI, 4, .inl gf)), (au, .inl (cI, 4, .inl uf)), (ax, .inl (cI, 4, .inl xf)), (al, .inl (cI, 4, .inl lf))] [(mq, .inr (3, [.int 0, .ref ak, .ref ad, .int st, .int en, .int 0, .int 0, .ref ah, .ref am, .ref ap, .ref ag, .ref au, .ref ax, .ref al, .ref ai, .int im, .ref an, .int nm, .ref ao, .int 0])), (ak, .inl (cI, 4, .inl (upd kf i (nI kn)))), (ad, .inl (cI, 4, .inl (upd df i (nI dn)))), (am, .inl (cI, 4, .inl (zr mf 4))), (ap, .inl (cI, 128, .inl (zr pf 128))), (ag, .inl (cI, 4, .inl (zr gf 4))), (au, .inl (cI, 4, .inl (zr uf 4))), (ax, .inl (cI, 4, .inl (zr xf 4))), (al, .inl (cI, 4, .inl (rL4 lf (st - 5))))] := by
  refine kV_of (cc := cX3_filter) (nL := 4) (own := RX3) (lv := [(0, .ref mq), (1, .int (nI i)), (2, .int (nI kn)), (3, .int (nI dn))]) (by decide) rfl rfl (Nat.le_of_ble_eq_true rfl) rfl ?_
  intro p e s m args below meth c A ls Q C hA hK hP hD hS hl hret
  obtain ⟨hx, hb, hr, hml, hown, hts, hlocks⟩ := C
  have k_13 := hts (.fieldLink RX3 13 "BranchFiltersModel" "distance" "[I") (by decide +kernel)
  have k_7 := hts (.fieldLink RX3 7 "BranchFiltersModel" "kind" "[I") (by decide +kernel)
  have inX3 : ∀ w ∈ wsX30, w ∈ wsX3_filter := by decide +kernel
  refine lv_aload_n hx hb dX3_filter_0 rfl (lv_at hl 0 rfl) ?_
  refine lv_iload_n hx hb dX3_filter_1 rfl (lv_at hl 1 rfl) ?_
  refine lv_iconst (v := 0) hx hb dX3_filter_2 (by decide) ?_
  refine lv_iconst (v := 3) hx hb dX3_filter_3 (by decide) ?_
  refine kCallS (As := [.int (nI i), .int 0, .int 3]) ⟨hx, hb, hml, hown, hts⟩ (c_X3_isIn l D cI cF cJ (nI i) 0 3 ) (cwS 3 hts gX3_filter_X3_isIn rfl rfl rfl (by decide +kernel) ⟨Nat.le_of_ble_eq_true rfl, Nat.le_of_ble_eq_true rfl⟩) hK hP hD hS hA rfl hl.1 (Nat.le_of_ble_eq_true rfl) ⟨Nat.zero_le _, Nat.zero_le _⟩ dX3_filter_4 (fun H locs hP hD hS => ?_) rfl
  refine lv_if_eq (tgt := 34) hx hb dX3_filter_7 (by decide) (fun c_1 => ?_) (fun c_1 => ?_)
  · exact absurd c_1 (by rw [rIn_04 i hi]; decide)
  · refine lv_iload_n hx hb dX3_filter_10 rfl (lv_at hl 2 rfl) ?_
    refine lv_iconst (v := 0) hx hb dX3_filter_11 (by decide) ?_
    refine lv_bipush (v := 7) hx hb dX3_filter_12 (by decide) ?_
    refine kCallS (As := [.int (nI kn), .int 0, .int 7]) ⟨hx, hb, hml, hown, hts⟩ (c_X3_isIn l D cI cF cJ (nI kn) 0 7 ) (cwS 3 hts gX3_filter_X3_isIn rfl rfl rfl (by decide +kernel) ⟨Nat.le_of_ble_eq_true rfl, Nat.le_of_ble_eq_true rfl⟩) hK hP hD hS hA rfl hl.1 (Nat.le_of_ble_eq_true rfl) ⟨Nat.zero_le _, Nat.zero_le _⟩ dX3_filter_14 (fun H locs hP hD hS => ?_) rfl
    refine lv_if_eq (tgt := 34) hx hb dX3_filter_17 (by decide) (fun c_2 => ?_) (fun c_2 => ?_)
    · exact absurd c_2 (by rw [rIn_08 kn hkn]; decide)
    · refine lv_iload_n hx hb dX3_filter_20 rfl (lv_at hl 3 rfl) ?_
      refine lv_iconst (v := 1) hx hb dX3_filter_21 (by decide) ?_
      refine lv_bipush (v := 32) hx hb dX3_filter_22 (by decide) ?_
      refine kCallS (As := [.int (nI dn), .int 1, .int 32]) ⟨hx, hb, hml, hown, hts⟩ (c_X3_isIn l D cI cF cJ (nI dn) 1 32 ) (cwS 3 hts gX3_filter_X3_isIn rfl rfl rfl (by decide +kernel) ⟨Nat.le_of_ble_eq_true rfl, Nat.le_of_ble_eq_true rfl⟩) hK hP hD hS hA rfl hl.1 (Nat.le_of_ble_eq_true rfl) ⟨Nat.zero_le _, Nat.zero_le _⟩ dX3_filter_24 (fun H locs hP hD hS => ?_) rfl
      refine lv_if_eq (tgt := 34) hx hb dX3_filter_27 (by decide) (fun c_3 => ?_) (fun c_3 => ?_)
      · exact absurd c_3 (by rw [(rIn_33 dn (by omega)).resolve_left (by omega)]; decide)
      · refine lv_iconst (v := 0) hx hb dX3_filter_30 (by decide) ?_
        refine lv_goto (tgt := 35) hx hb dX3_filter_31 (by decide) ?_
        refine kCallI (As := [.int 0]) (wc := [(mq, .inr (3, [.int fa, .ref ak, .ref ad, .int st, .int en, .int cm, .int fi, .ref ah, .ref am, .ref ap, .ref ag, .ref au, .ref ax, .ref al, .ref ai, .int im, .ref an, .int nm, .ref ao, .int om]))]) (wr := [(ak, .inl (cI, 4, .inl kf)), (ad, .inl (cI, 4, .inl df)), (am, .inl (cI, 4, .inl mf)), (ap, .inl (cI, 128, .inl pf)), (ag, .inl (cI, 4, .inl gf)), (au, .inl (cI, 4, .inl uf)), (ax, .inl (cI, 4, .inl xf)), (al, .inl (cI, 4, .inl lf))]) (ws' := [(mq, .inr (3, [.int 0, .ref ak, .ref ad, .int st, .int en, .int cm, .int fi, .ref ah, .ref am, .ref ap, .ref ag, .ref au, .ref ax, .ref al, .ref ai, .int im, .ref an, .int nm, .ref ao, .int om])), (ak, .inl (cI, 4, .inl kf)), (ad, .inl (cI, 4, .inl df)), (am, .inl (cI, 4, .inl mf)), (ap, .inl (cI, 128, .inl pf)), (ag, .inl (cI, 4, .inl gf)), (au, .inl (cI, 4, .inl uf)), (ax, .inl (cI, 4, .inl xf)), (al, .inl (cI, 4, .inl lf))]) (ci := 3) (C := RX3) ⟨hx, hb, hml, hown, hts⟩ (c_X3_refused l D cI cF cJ mq ak ad ah am ap ag au ax al ai an ao fa st en cm fi im nm om 0 ) (cwV 1 hts gX3_filter_X3_refused rfl rfl rfl (by decide +kernel) ⟨Nat.le_of_ble_eq_true rfl, Nat.le_of_ble_eq_true rfl⟩) hK hP hD hS hA [0] [1, 2, 3, 4, 5, 6, 7, 8] [8, 0, 1, 2, 3, 4, 5, 6, 7] rfl rfl rfl rfl (by decide) rfl rfl rfl rfl rfl hl.1 (Nat.le_of_ble_eq_true rfl) ⟨Nat.zero_le _, Nat.zero_le _⟩ dX3_filter_35 (fun H locs hP hD hS => ?_) rfl
        refine lv_if_eq (tgt := 42) hx hb dX3_filter_38 (by decide) (fun c_4 => ?_) (fun c_4 => ?_)
        · refine lv_aload_n hx hb dX3_filter_42 rfl (lv_at hl 0 rfl) ?_
          refine va_get (D := D) (ci := 3) (v := .ref ak) (C := RX3) (T := TX3) (N := 20) hx hb hts inX3 hown hK hP 0 rfl rfl 1 (by decide) k_7 (fun _ h9 => h9) rfl dX3_filter_43 ?_
          refine lv_iload_n hx hb dX3_filter_46 rfl (lv_at hl 1 rfl) ?_
          refine lv_iload_n hx hb dX3_filter_47 rfl (lv_at hl 2 rfl) ?_
          refine kIast (k := i) (ws' := [(mq, .inr (3, [.int 0, .ref ak, .ref ad, .int st, .int en, .int cm, .int fi, .ref ah, .ref am, .ref ap, .ref ag, .ref au, .ref ax, .ref al, .ref ai, .int im, .ref an, .int nm, .ref ao, .int om])), (ak, .inl (cI, 4, .inl (upd kf i (nI kn)))), (ad, .inl (cI, 4, .inl df)), (am, .inl (cI, 4, .inl mf)), (ap, .inl (cI, 128, .inl pf)), (ag, .inl (cI, 4, .inl gf)), (au, .inl (cI, 4, .inl uf)), (ax, .inl (cI, 4, .inl xf)), (al, .inl (cI, 4, .inl lf))]) hx hb hK hP hD hS 1 0 rfl rfl (rfl) (by omega) (by omega) rfl dX3_filter_48 (fun H locs hP hD hS => ?_)
          refine lv_aload_n hx hb dX3_filter_49 rfl (lv_at hl 0 rfl) ?_
          refine va_get (D := D) (ci := 3) (v := .ref ad) (C := RX3) (T := TX3) (N := 20) hx hb hts inX3 hown hK hP 0 rfl rfl 2 (by decide) k_13 (fun _ h9 => h9) rfl dX3_filter_50 ?_
          refine lv_iload_n hx hb dX3_filter_53 rfl (lv_at hl 1 rfl) ?_
          refine lv_iload_n hx hb dX3_filter_54 rfl (lv_at hl 3 rfl) ?_
          refine kIast (k := i) (ws' := [(mq, .inr (3, [.int 0, .ref ak, .ref ad, .int st, .int en, .int cm, .int fi, .ref ah, .ref am, .ref ap, .ref ag, .ref au, .ref ax, .ref al, .ref ai, .int im, .ref an, .int nm, .ref ao, .int om])), (ak, .inl (cI, 4, .inl (upd kf i (nI kn)))), (ad, .inl (cI, 4, .inl (upd df i (nI dn)))), (am, .inl (cI, 4, .inl mf)), (ap, .inl (cI, 128, .inl pf)), (ag, .inl (cI, 4, .inl gf)), (au, .inl (cI, 4, .inl uf)), (ax, .inl (cI, 4, .inl xf)), (al, .inl (cI, 4, .inl lf))]) hx hb hK hP hD hS 2 0 rfl rfl (rfl) (by omega) (by omega) rfl dX3_filter_55 (fun H locs hP hD hS => ?_)
          refine lv_aload_n hx hb dX3_filter_56 rfl (lv_at hl 0 rfl) ?_
          refine kCallV (As := []) (wc := [(mq, .inr (3, [.int 0, .ref ak, .ref ad, .int st, .int en, .int cm, .int fi, .ref ah, .ref am, .ref ap, .ref ag, .ref au, .ref ax, .ref al, .ref ai, .int im, .ref an, .int nm, .ref ao, .int om])), (am, .inl (cI, 4, .inl mf)), (ap, .inl (cI, 128, .inl pf)), (ag, .inl (cI, 4, .inl gf)), (au, .inl (cI, 4, .inl uf)), (ax, .inl (cI, 4, .inl xf)), (al, .inl (cI, 4, .inl lf))]) (wr := [(ak, .inl (cI, 4, .inl (upd kf i (nI kn)))), (ad, .inl (cI, 4, .inl (upd df i (nI dn))))]) (ws' := [(mq, .inr (3, [.int 0, .ref ak, .ref ad, .int st, .int en, .int 0, .int 0, .ref ah, .ref am, .ref ap, .ref ag, .ref au, .ref ax, .ref al, .ref ai, .int im, .ref an, .int nm, .ref ao, .int 0])), (ak, .inl (cI, 4, .inl (upd kf i (nI kn)))), (ad, .inl (cI, 4, .inl (upd df i (nI dn)))), (am, .inl (cI, 4, .inl (zr mf 4))), (ap, .inl (cI, 128, .inl (zr pf 128))), (ag, .inl (cI, 4, .inl (zr gf 4))), (au, .inl (cI, 4, .inl (zr uf 4))), (ax, .inl (cI, 4, .inl (zr xf 4))), (al, .inl (cI, 4, .inl (rL4 lf (st - 5))))]) (ci := 3) (C := RX3) ⟨hx, hb, hml, hown, hts⟩ (c_X3_anew l D cI cF cJ mq ak ad ah am ap ag au ax al ai an ao 0 st en cm fi im nm om mf pf gf uf xf lf ) (cwV 0 hts gX3_filter_X3_anew rfl rfl rfl (by decide +kernel) ⟨Nat.le_of_ble_eq_true rfl, Nat.le_of_ble_eq_true rfl⟩) hK hP hD hS hA [0, 3, 4, 5, 6, 7, 8] [1, 2] [2, 0, 1, 3, 4, 5, 6, 7, 8] rfl rfl rfl rfl (by decide) rfl rfl rfl rfl rfl hl.1 (Nat.le_of_ble_eq_true rfl) ⟨Nat.zero_le _, Nat.zero_le _⟩ dX3_filter_57 (fun H locs hP hD hS => ?_) rfl
          exact hret _ _ _ _ dX3_filter_60 (hP) (hD) hS
        · exact absurd c_4 (by decide)

set_option maxHeartbeats 4000000 in
set_option maxRecDepth 100000 in
theorem mt_filter (l : Launch) (D : va_G) (cI cF cJ : ClassId) (mq ak ad ah am ap ag au ax al ai an ao : Nat) (fa st en cm fi im nm om : Int32) (x y z : Int32) (hbad : x < 0 ∨ ¬ x < 4 ∨ y < 0 ∨ ¬ y < 8 ∨ z < 1 ∨ ¬ z ≤ 32) : kV l yX3_filter wsX3_filter ({ frames := 1, cells := 0, slots := 0, locals := 22 }) D (kTy cI cF cJ) [.ref mq, .int x, .int y, .int z] [(mq, .inr (3, [.int fa, .ref ak, .ref ad, .int st, .int en, .int cm, .int fi, .ref ah, .ref am, .ref ap, .ref ag, .ref au, .ref ax, .ref al, .ref ai, .int im, .ref an, .int nm, .ref ao, .int om]))] [(mq, .inr (3, [.int 1, .ref ak, .ref ad, .int st, .int en, .int cm, .int fi, .ref ah, .ref am, .ref ap, .ref ag, .ref au, .ref ax, .ref al, .ref ai, .int im, .ref an, .int nm, .ref ao, .int om]))] := by
  refine kV_of (cc := cX3_filter) (nL := 4) (own := RX3) (lv := [(0, .ref mq), (1, .int x), (2, .int y), (3, .int z)]) (by decide) rfl rfl (Nat.le_of_ble_eq_true rfl) rfl ?_
  intro p e s m args below meth c A ls Q C hA hK hP hD hS hl hret
  obtain ⟨hx, hb, hr, hml, hown, hts, hlocks⟩ := C
  refine lv_aload_n hx hb dX3_filter_0 rfl (lv_at hl 0 rfl) ?_
  refine lv_iload_n hx hb dX3_filter_1 rfl (lv_at hl 1 rfl) ?_
  refine lv_iconst (v := 0) hx hb dX3_filter_2 (by decide) ?_
  refine lv_iconst (v := 3) hx hb dX3_filter_3 (by decide) ?_
  refine kCallS (As := [.int x, .int 0, .int 3]) ⟨hx, hb, hml, hown, hts⟩ (c_X3_isIn l D cI cF cJ x 0 3 ) (cwS 3 hts gX3_filter_X3_isIn rfl rfl rfl (by decide +kernel) ⟨Nat.le_of_ble_eq_true rfl, Nat.le_of_ble_eq_true rfl⟩) hK hP hD hS hA rfl hl.1 (Nat.le_of_ble_eq_true rfl) ⟨Nat.zero_le _, Nat.zero_le _⟩ dX3_filter_4 (fun H locs hP hD hS => ?_) rfl
  refine lv_if_eq (tgt := 34) hx hb dX3_filter_7 (by decide) (fun c_1 => ?_) (fun c_1 => ?_)
  · refine lv_iconst (v := 1) hx hb dX3_filter_34 (by decide) ?_
    refine kCallI (As := [.int 1]) (wc := [(mq, .inr (3, [.int fa, .ref ak, .ref ad, .int st, .int en, .int cm, .int fi, .ref ah, .ref am, .ref ap, .ref ag, .ref au, .ref ax, .ref al, .ref ai, .int im, .ref an, .int nm, .ref ao, .int om]))]) (wr := []) (ws' := [(mq, .inr (3, [.int 1, .ref ak, .ref ad, .int st, .int en, .int cm, .int fi, .ref ah, .ref am, .ref ap, .ref ag, .ref au, .ref ax, .ref al, .ref ai, .int im, .ref an, .int nm, .ref ao, .int om]))]) (ci := 3) (C := RX3) ⟨hx, hb, hml, hown, hts⟩ (c_X3_refused l D cI cF cJ mq ak ad ah am ap ag au ax al ai an ao fa st en cm fi im nm om 1 ) (cwV 1 hts gX3_filter_X3_refused rfl rfl rfl (by decide +kernel) ⟨Nat.le_of_ble_eq_true rfl, Nat.le_of_ble_eq_true rfl⟩) hK hP hD hS hA [0] [] [0] rfl rfl rfl rfl (by decide) rfl rfl rfl rfl rfl hl.1 (Nat.le_of_ble_eq_true rfl) ⟨Nat.zero_le _, Nat.zero_le _⟩ dX3_filter_35 (fun H locs hP hD hS => ?_) rfl
    refine lv_if_eq (tgt := 42) hx hb dX3_filter_38 (by decide) (fun c_2 => ?_) (fun c_2 => ?_)
    · exact absurd c_2 (by decide)
    · exact hret _ _ _ _ dX3_filter_41 (hP) (hD) hS
  · refine lv_iload_n hx hb dX3_filter_10 rfl (lv_at hl 2 rfl) ?_
    refine lv_iconst (v := 0) hx hb dX3_filter_11 (by decide) ?_
    refine lv_bipush (v := 7) hx hb dX3_filter_12 (by decide) ?_
    refine kCallS (As := [.int y, .int 0, .int 7]) ⟨hx, hb, hml, hown, hts⟩ (c_X3_isIn l D cI cF cJ y 0 7 ) (cwS 3 hts gX3_filter_X3_isIn rfl rfl rfl (by decide +kernel) ⟨Nat.le_of_ble_eq_true rfl, Nat.le_of_ble_eq_true rfl⟩) hK hP hD hS hA rfl hl.1 (Nat.le_of_ble_eq_true rfl) ⟨Nat.zero_le _, Nat.zero_le _⟩ dX3_filter_14 (fun H locs hP hD hS => ?_) rfl
    refine lv_if_eq (tgt := 34) hx hb dX3_filter_17 (by decide) (fun c_3 => ?_) (fun c_3 => ?_)
    · refine lv_iconst (v := 1) hx hb dX3_filter_34 (by decide) ?_
      refine kCallI (As := [.int 1]) (wc := [(mq, .inr (3, [.int fa, .ref ak, .ref ad, .int st, .int en, .int cm, .int fi, .ref ah, .ref am, .ref ap, .ref ag, .ref au, .ref ax, .ref al, .ref ai, .int im, .ref an, .int nm, .ref ao, .int om]))]) (wr := []) (ws' := [(mq, .inr (3, [.int 1, .ref ak, .ref ad, .int st, .int en, .int cm, .int fi, .ref ah, .ref am, .ref ap, .ref ag, .ref au, .ref ax, .ref al, .ref ai, .int im, .ref an, .int nm, .ref ao, .int om]))]) (ci := 3) (C := RX3) ⟨hx, hb, hml, hown, hts⟩ (c_X3_refused l D cI cF cJ mq ak ad ah am ap ag au ax al ai an ao fa st en cm fi im nm om 1 ) (cwV 1 hts gX3_filter_X3_refused rfl rfl rfl (by decide +kernel) ⟨Nat.le_of_ble_eq_true rfl, Nat.le_of_ble_eq_true rfl⟩) hK hP hD hS hA [0] [] [0] rfl rfl rfl rfl (by decide) rfl rfl rfl rfl rfl hl.1 (Nat.le_of_ble_eq_true rfl) ⟨Nat.zero_le _, Nat.zero_le _⟩ dX3_filter_35 (fun H locs hP hD hS => ?_) rfl
      refine lv_if_eq (tgt := 42) hx hb dX3_filter_38 (by decide) (fun c_4 => ?_) (fun c_4 => ?_)
      · exact absurd c_4 (by decide)
      · exact hret _ _ _ _ dX3_filter_41 (hP) (hD) hS
    · refine lv_iload_n hx hb dX3_filter_20 rfl (lv_at hl 3 rfl) ?_
      refine lv_iconst (v := 1) hx hb dX3_filter_21 (by decide) ?_
      refine lv_bipush (v := 32) hx hb dX3_filter_22 (by decide) ?_
      refine kCallS (As := [.int z, .int 1, .int 32]) ⟨hx, hb, hml, hown, hts⟩ (c_X3_isIn l D cI cF cJ z 1 32 ) (cwS 3 hts gX3_filter_X3_isIn rfl rfl rfl (by decide +kernel) ⟨Nat.le_of_ble_eq_true rfl, Nat.le_of_ble_eq_true rfl⟩) hK hP hD hS hA rfl hl.1 (Nat.le_of_ble_eq_true rfl) ⟨Nat.zero_le _, Nat.zero_le _⟩ dX3_filter_24 (fun H locs hP hD hS => ?_) rfl
      refine lv_if_eq (tgt := 34) hx hb dX3_filter_27 (by decide) (fun c_5 => ?_) (fun c_5 => ?_)
      · refine lv_iconst (v := 1) hx hb dX3_filter_34 (by decide) ?_
        refine kCallI (As := [.int 1]) (wc := [(mq, .inr (3, [.int fa, .ref ak, .ref ad, .int st, .int en, .int cm, .int fi, .ref ah, .ref am, .ref ap, .ref ag, .ref au, .ref ax, .ref al, .ref ai, .int im, .ref an, .int nm, .ref ao, .int om]))]) (wr := []) (ws' := [(mq, .inr (3, [.int 1, .ref ak, .ref ad, .int st, .int en, .int cm, .int fi, .ref ah, .ref am, .ref ap, .ref ag, .ref au, .ref ax, .ref al, .ref ai, .int im, .ref an, .int nm, .ref ao, .int om]))]) (ci := 3) (C := RX3) ⟨hx, hb, hml, hown, hts⟩ (c_X3_refused l D cI cF cJ mq ak ad ah am ap ag au ax al ai an ao fa st en cm fi im nm om 1 ) (cwV 1 hts gX3_filter_X3_refused rfl rfl rfl (by decide +kernel) ⟨Nat.le_of_ble_eq_true rfl, Nat.le_of_ble_eq_true rfl⟩) hK hP hD hS hA [0] [] [0] rfl rfl rfl rfl (by decide) rfl rfl rfl rfl rfl hl.1 (Nat.le_of_ble_eq_true rfl) ⟨Nat.zero_le _, Nat.zero_le _⟩ dX3_filter_35 (fun H locs hP hD hS => ?_) rfl
        refine lv_if_eq (tgt := 42) hx hb dX3_filter_38 (by decide) (fun c_6 => ?_) (fun c_6 => ?_)
        · exact absurd c_6 (by decide)
        · exact hret _ _ _ _ dX3_filter_41 (hP) (hD) hS
      · obtain ⟨a1, a2⟩ := rIn_nz c_1
        obtain ⟨b1, b2⟩ := rIn_nz c_3
        obtain ⟨c1, c2⟩ := rIn_nz c_5
        rcases hbad with h9 | h9 | h9 | h9 | h9 | h9
        · exact absurd h9 a1
        · exact absurd (lt_of_nle 3 4 a2 rfl) h9
        · exact absurd h9 b1
        · exact absurd (lt_of_nle 7 8 b2 rfl) h9
        · exact absurd h9 c1
        · exact absurd (Int32.not_lt.mp c2) h9

set_option maxHeartbeats 4000000 in
set_option maxRecDepth 100000 in
theorem m_output (l : Launch) (D : va_G) (cI cF cJ : ClassId) (mq ak ad ah am ap ag au ax al ai an ao : Nat) (fa st en cm fi im nm x : Int32) (rn : Nat) (of : Nat → Int32) (hrn : rn ≤ 2000) : kI l yX3_output wsX3_output ({ frames := 1, cells := 0, slots := 0, locals := 22 }) D (kTy cI cF cJ) [.ref mq, .int x] [(mq, .inr (3, [.int fa, .ref ak, .ref ad, .int st, .int en, .int cm, .int fi, .ref ah, .ref am, .ref ap, .ref ag, .ref au, .ref ax, .ref al, .ref ai, .int im, .ref an, .int nm, .ref ao, .int (nI rn)])), (ao, .inl (cI, 2000, .inl of))] [(mq, .inr (3, [.int 0, .ref ak, .ref ad, .int st, .int en, .int cm, .int fi, .ref ah, .ref am, .ref ap, .ref ag, .ref au, .ref ax, .ref al, .ref ai, .int im, .ref an, .int nm, .ref ao, .int (nI rn)])), (ao, .inl (cI, 2000, .inl of))] (oOut rn of x) := by
  refine kI_of (cc := cX3_output) (nL := 2) (ty := .int) (own := RX3) (lv := [(0, .ref mq), (1, .int x)]) (by decide) rfl rfl (Nat.le_of_ble_eq_true rfl) rfl (rfl) ?_
  intro p e s m args below meth c A ls Q C hA hK hP hD hS hl hret
  obtain ⟨hx, hb, hr, hml, hown, hts, hlocks⟩ := C
  have k_47 := hts (.fieldLink RX3 47 "BranchFiltersModel" "out" "[I") (by decide +kernel)
  have k_53 := hts (.fieldLink RX3 53 "BranchFiltersModel" "fault" "I") (by decide +kernel)
  have k_63 := hts (.fieldLink RX3 63 "BranchFiltersModel" "outMany" "I") (by decide +kernel)
  have inX3 : ∀ w ∈ wsX30, w ∈ wsX3_output := by decide +kernel
  rcases pk_ix x (n := rn) (by omega) with hc | hc | ⟨j, hj, rfl⟩
  · have e0 : rIn x 0 (nI rn - 1) = 0 := if_pos hc
    have e9 : oOut rn of x = -1 := if_pos hc
    refine lv_aload_n hx hb dX3_output_0 rfl (lv_at hl 0 rfl) ?_
    refine lv_iconst (v := 0) hx hb dX3_output_1 (by decide) ?_
    refine kPut (D := D) (ci := 3) (v := .int 0) (ty := .int) (C := RX3) (T := TX3) (N := 20) (ws' := [(mq, .inr (3, [.int 0, .ref ak, .ref ad, .int st, .int en, .int cm, .int fi, .ref ah, .ref am, .ref ap, .ref ag, .ref au, .ref ax, .ref al, .ref ai, .int im, .ref an, .int nm, .ref ao, .int (nI rn)])), (ao, .inl (cI, 2000, .inl of))]) hx hb hts inX3 tyX3 tyX3_ok nmX3 hown hK hP hD hS 0 rfl rfl 0 (by decide) k_53 rfl (by decide +kernel) (rfl) (by first | rfl | decide) (Nat.le_of_ble_eq_true rfl) rfl dX3_output_2 (fun H locs hP hD hS => ?_)
    refine lv_iload_n hx hb dX3_output_5 rfl (lv_at hl 1 rfl) ?_
    refine lv_iconst (v := 0) hx hb dX3_output_6 (by decide) ?_
    refine lv_aload_n hx hb dX3_output_7 rfl (lv_at hl 0 rfl) ?_
    refine va_get (D := D) (ci := 3) (v := .int (nI rn)) (C := RX3) (T := TX3) (N := 20) hx hb hts inX3 hown hK hP 0 rfl rfl 19 (by decide) k_63 (fun _ h9 => h9) rfl dX3_output_8 ?_
    refine lv_iconst (v := 1) hx hb dX3_output_11 (by decide) ?_
    refine lv_isub hx hb dX3_output_12 ?_
    refine kCallS (As := [.int x, .int 0, .int ((nI rn) - 1)]) ⟨hx, hb, hml, hown, hts⟩ (c_X3_isIn l D cI cF cJ x 0 ((nI rn) - 1) ) (cwS 3 hts gX3_output_X3_isIn rfl rfl rfl (by decide +kernel) ⟨Nat.le_of_ble_eq_true rfl, Nat.le_of_ble_eq_true rfl⟩) hK hP hD hS hA rfl hl.1 (Nat.le_of_ble_eq_true rfl) ⟨Nat.zero_le _, Nat.zero_le _⟩ dX3_output_13 (fun H locs hP hD hS => ?_) rfl
    refine lv_if_eq (tgt := 28) hx hb dX3_output_16 (by decide) (fun c_1 => ?_) (fun c_1 => ?_)
    · refine lv_iconst (v := (-1)) hx hb dX3_output_28 (by decide) ?_
      exact hret _ _ _ _ _ dX3_output_29 (by rw [e9]) hP hD hS
    · exact absurd e0 c_1
  · have hn0 : ¬ x < 0 := by intro q; rw [Int32.lt_iff_toInt_lt] at q; rw [Int32.le_iff_toInt_le, nI_toInt (by omega)] at hc; have : (0 : Int32).toInt = 0 := rfl; omega
    have hl1 : nI rn - 1 < x := by rw [Int32.lt_iff_toInt_lt, show (nI rn - 1).toInt = (rn : Int) - 1 from pk_sub_toInt (b := 1) (by omega) (by omega)]; rw [Int32.le_iff_toInt_le, nI_toInt (by omega)] at hc; omega
    have e0 : rIn x 0 (nI rn - 1) = 0 := (if_neg hn0).trans (if_pos hl1)
    have e9 : oOut rn of x = -1 := (if_neg hn0).trans (if_neg (Int32.not_lt.mpr hc))
    refine lv_aload_n hx hb dX3_output_0 rfl (lv_at hl 0 rfl) ?_
    refine lv_iconst (v := 0) hx hb dX3_output_1 (by decide) ?_
    refine kPut (D := D) (ci := 3) (v := .int 0) (ty := .int) (C := RX3) (T := TX3) (N := 20) (ws' := [(mq, .inr (3, [.int 0, .ref ak, .ref ad, .int st, .int en, .int cm, .int fi, .ref ah, .ref am, .ref ap, .ref ag, .ref au, .ref ax, .ref al, .ref ai, .int im, .ref an, .int nm, .ref ao, .int (nI rn)])), (ao, .inl (cI, 2000, .inl of))]) hx hb hts inX3 tyX3 tyX3_ok nmX3 hown hK hP hD hS 0 rfl rfl 0 (by decide) k_53 rfl (by decide +kernel) (rfl) (by first | rfl | decide) (Nat.le_of_ble_eq_true rfl) rfl dX3_output_2 (fun H locs hP hD hS => ?_)
    refine lv_iload_n hx hb dX3_output_5 rfl (lv_at hl 1 rfl) ?_
    refine lv_iconst (v := 0) hx hb dX3_output_6 (by decide) ?_
    refine lv_aload_n hx hb dX3_output_7 rfl (lv_at hl 0 rfl) ?_
    refine va_get (D := D) (ci := 3) (v := .int (nI rn)) (C := RX3) (T := TX3) (N := 20) hx hb hts inX3 hown hK hP 0 rfl rfl 19 (by decide) k_63 (fun _ h9 => h9) rfl dX3_output_8 ?_
    refine lv_iconst (v := 1) hx hb dX3_output_11 (by decide) ?_
    refine lv_isub hx hb dX3_output_12 ?_
    refine kCallS (As := [.int x, .int 0, .int ((nI rn) - 1)]) ⟨hx, hb, hml, hown, hts⟩ (c_X3_isIn l D cI cF cJ x 0 ((nI rn) - 1) ) (cwS 3 hts gX3_output_X3_isIn rfl rfl rfl (by decide +kernel) ⟨Nat.le_of_ble_eq_true rfl, Nat.le_of_ble_eq_true rfl⟩) hK hP hD hS hA rfl hl.1 (Nat.le_of_ble_eq_true rfl) ⟨Nat.zero_le _, Nat.zero_le _⟩ dX3_output_13 (fun H locs hP hD hS => ?_) rfl
    refine lv_if_eq (tgt := 28) hx hb dX3_output_16 (by decide) (fun c_2 => ?_) (fun c_2 => ?_)
    · refine lv_iconst (v := (-1)) hx hb dX3_output_28 (by decide) ?_
      exact hret _ _ _ _ _ dX3_output_29 (by rw [e9]) hP hD hS
    · exact absurd e0 c_2
  · have hn0 : ¬ nI j < 0 := nI_pos (by omega)
    have hl1 : ¬ nI rn - 1 < nI j := by rw [Int32.lt_iff_toInt_lt, show (nI rn - 1).toInt = (rn : Int) - 1 from pk_sub_toInt (b := 1) (by omega) (by omega), nI_toInt (by omega)]; omega
    have e0 : rIn (nI j) 0 (nI rn - 1) = 1 := (if_neg hn0).trans (if_neg hl1)
    have e9 : oOut rn of (nI j) = of j := (if_neg hn0).trans ((if_pos ((nI_ltI (by omega) (by omega)).mpr hj)).trans (by rw [nI_clamp (by omega)]))
    refine lv_aload_n hx hb dX3_output_0 rfl (lv_at hl 0 rfl) ?_
    refine lv_iconst (v := 0) hx hb dX3_output_1 (by decide) ?_
    refine kPut (D := D) (ci := 3) (v := .int 0) (ty := .int) (C := RX3) (T := TX3) (N := 20) (ws' := [(mq, .inr (3, [.int 0, .ref ak, .ref ad, .int st, .int en, .int cm, .int fi, .ref ah, .ref am, .ref ap, .ref ag, .ref au, .ref ax, .ref al, .ref ai, .int im, .ref an, .int nm, .ref ao, .int (nI rn)])), (ao, .inl (cI, 2000, .inl of))]) hx hb hts inX3 tyX3 tyX3_ok nmX3 hown hK hP hD hS 0 rfl rfl 0 (by decide) k_53 rfl (by decide +kernel) (rfl) (by first | rfl | decide) (Nat.le_of_ble_eq_true rfl) rfl dX3_output_2 (fun H locs hP hD hS => ?_)
    refine lv_iload_n hx hb dX3_output_5 rfl (lv_at hl 1 rfl) ?_
    refine lv_iconst (v := 0) hx hb dX3_output_6 (by decide) ?_
    refine lv_aload_n hx hb dX3_output_7 rfl (lv_at hl 0 rfl) ?_
    refine va_get (D := D) (ci := 3) (v := .int (nI rn)) (C := RX3) (T := TX3) (N := 20) hx hb hts inX3 hown hK hP 0 rfl rfl 19 (by decide) k_63 (fun _ h9 => h9) rfl dX3_output_8 ?_
    refine lv_iconst (v := 1) hx hb dX3_output_11 (by decide) ?_
    refine lv_isub hx hb dX3_output_12 ?_
    refine kCallS (As := [.int (nI j), .int 0, .int ((nI rn) - 1)]) ⟨hx, hb, hml, hown, hts⟩ (c_X3_isIn l D cI cF cJ (nI j) 0 ((nI rn) - 1) ) (cwS 3 hts gX3_output_X3_isIn rfl rfl rfl (by decide +kernel) ⟨Nat.le_of_ble_eq_true rfl, Nat.le_of_ble_eq_true rfl⟩) hK hP hD hS hA rfl hl.1 (Nat.le_of_ble_eq_true rfl) ⟨Nat.zero_le _, Nat.zero_le _⟩ dX3_output_13 (fun H locs hP hD hS => ?_) rfl
    refine lv_if_eq (tgt := 28) hx hb dX3_output_16 (by decide) (fun c_3 => ?_) (fun c_3 => ?_)
    · exact absurd c_3 (by rw [e0]; decide)
    · refine lv_aload_n hx hb dX3_output_19 rfl (lv_at hl 0 rfl) ?_
      refine va_get (D := D) (ci := 3) (v := .ref ao) (C := RX3) (T := TX3) (N := 20) hx hb hts inX3 hown hK hP 0 rfl rfl 18 (by decide) k_47 (fun _ h9 => h9) rfl dX3_output_20 ?_
      refine lv_iload_n hx hb dX3_output_23 rfl (lv_at hl 1 rfl) ?_
      refine kIald (k := j) hx hb hK hP 1 0 rfl rfl (rfl) (by omega) (by omega) dX3_output_24 ?_
      refine lv_goto (tgt := 29) hx hb dX3_output_25 (by decide) ?_
      exact hret _ _ _ _ _ dX3_output_29 (by rw [e9]) hP hD hS

set_option maxHeartbeats 4000000 in
set_option maxRecDepth 100000 in
theorem mt_word (l : Launch) (D : va_G) (cI cF cJ : ClassId) (mq ak ad ah am ap ag au ax al ai an ao : Nat) (fa st en cm fi im nm x : Int32) (rn : Nat) (hrn : rn ≤ 2000) (hbad : x < 0 ∨ ¬ x ≤ nI rn - 4) : kI l yX3_word wsX3_word ({ frames := 1, cells := 0, slots := 0, locals := 21 }) D (kTy cI cF cJ) [.ref mq, .int x] [(mq, .inr (3, [.int fa, .ref ak, .ref ad, .int st, .int en, .int cm, .int fi, .ref ah, .ref am, .ref ap, .ref ag, .ref au, .ref ax, .ref al, .ref ai, .int im, .ref an, .int nm, .ref ao, .int (nI rn)]))] [(mq, .inr (3, [.int 1, .ref ak, .ref ad, .int st, .int en, .int cm, .int fi, .ref ah, .ref am, .ref ap, .ref ag, .ref au, .ref ax, .ref al, .ref ai, .int im, .ref an, .int nm, .ref ao, .int (nI rn)]))] 0 := by
  refine kI_of (cc := cX3_word) (nL := 2) (ty := .int) (own := RX3) (lv := [(0, .ref mq), (1, .int x)]) (by decide) rfl rfl (Nat.le_of_ble_eq_true rfl) rfl (rfl) ?_
  intro p e s m args below meth c A ls Q C hA hK hP hD hS hl hret
  obtain ⟨hx, hb, hr, hml, hown, hts, hlocks⟩ := C
  have k_63 := hts (.fieldLink RX3 63 "BranchFiltersModel" "outMany" "I") (by decide +kernel)
  have inX3 : ∀ w ∈ wsX30, w ∈ wsX3_word := by decide +kernel
  refine lv_aload_n hx hb dX3_word_0 rfl (lv_at hl 0 rfl) ?_
  refine lv_iload_n hx hb dX3_word_1 rfl (lv_at hl 1 rfl) ?_
  refine lv_if_lt (tgt := 19) hx hb dX3_word_2 (by decide) (fun c_1 => ?_) (fun c_1 => ?_)
  · refine lv_iconst (v := 1) hx hb dX3_word_19 (by decide) ?_
    refine kCallI (As := [.int 1]) (wc := [(mq, .inr (3, [.int fa, .ref ak, .ref ad, .int st, .int en, .int cm, .int fi, .ref ah, .ref am, .ref ap, .ref ag, .ref au, .ref ax, .ref al, .ref ai, .int im, .ref an, .int nm, .ref ao, .int (nI rn)]))]) (wr := []) (ws' := [(mq, .inr (3, [.int 1, .ref ak, .ref ad, .int st, .int en, .int cm, .int fi, .ref ah, .ref am, .ref ap, .ref ag, .ref au, .ref ax, .ref al, .ref ai, .int im, .ref an, .int nm, .ref ao, .int (nI rn)]))]) (ci := 3) (C := RX3) ⟨hx, hb, hml, hown, hts⟩ (c_X3_refused l D cI cF cJ mq ak ad ah am ap ag au ax al ai an ao fa st en cm fi im nm (nI rn) 1 ) (cwV 1 hts gX3_word_X3_refused rfl rfl rfl (by decide +kernel) ⟨Nat.le_of_ble_eq_true rfl, Nat.le_of_ble_eq_true rfl⟩) hK hP hD hS hA [0] [] [0] rfl rfl rfl rfl (by decide) rfl rfl rfl rfl rfl hl.1 (Nat.le_of_ble_eq_true rfl) ⟨Nat.zero_le _, Nat.zero_le _⟩ dX3_word_20 (fun H locs hP hD hS => ?_) rfl
    refine lv_if_eq (tgt := 28) hx hb dX3_word_23 (by decide) (fun c_2 => ?_) (fun c_2 => ?_)
    · exact absurd c_2 (by decide)
    · refine lv_iconst (v := 0) hx hb dX3_word_26 (by decide) ?_
      exact hret _ _ _ _ _ dX3_word_27 (rfl) (hP) (hD) hS
  · refine lv_iload_n hx hb dX3_word_5 rfl (lv_at hl 1 rfl) ?_
    refine lv_aload_n hx hb dX3_word_6 rfl (lv_at hl 0 rfl) ?_
    refine va_get (D := D) (ci := 3) (v := .int (nI rn)) (C := RX3) (T := TX3) (N := 20) hx hb hts inX3 hown hK hP 0 rfl rfl 19 (by decide) k_63 (fun _ h9 => h9) rfl dX3_word_7 ?_
    refine lv_iconst (v := 3) hx hb dX3_word_10 (by decide) ?_
    refine lv_isub hx hb dX3_word_11 ?_
    refine lv_icmp_ge (tgt := 19) hx hb dX3_word_12 (by decide) (fun c_3 => ?_) (fun c_3 => ?_)
    · refine lv_iconst (v := 1) hx hb dX3_word_19 (by decide) ?_
      refine kCallI (As := [.int 1]) (wc := [(mq, .inr (3, [.int fa, .ref ak, .ref ad, .int st, .int en, .int cm, .int fi, .ref ah, .ref am, .ref ap, .ref ag, .ref au, .ref ax, .ref al, .ref ai, .int im, .ref an, .int nm, .ref ao, .int (nI rn)]))]) (wr := []) (ws' := [(mq, .inr (3, [.int 1, .ref ak, .ref ad, .int st, .int en, .int cm, .int fi, .ref ah, .ref am, .ref ap, .ref ag, .ref au, .ref ax, .ref al, .ref ai, .int im, .ref an, .int nm, .ref ao, .int (nI rn)]))]) (ci := 3) (C := RX3) ⟨hx, hb, hml, hown, hts⟩ (c_X3_refused l D cI cF cJ mq ak ad ah am ap ag au ax al ai an ao fa st en cm fi im nm (nI rn) 1 ) (cwV 1 hts gX3_word_X3_refused rfl rfl rfl (by decide +kernel) ⟨Nat.le_of_ble_eq_true rfl, Nat.le_of_ble_eq_true rfl⟩) hK hP hD hS hA [0] [] [0] rfl rfl rfl rfl (by decide) rfl rfl rfl rfl rfl hl.1 (Nat.le_of_ble_eq_true rfl) ⟨Nat.zero_le _, Nat.zero_le _⟩ dX3_word_20 (fun H locs hP hD hS => ?_) rfl
      refine lv_if_eq (tgt := 28) hx hb dX3_word_23 (by decide) (fun c_4 => ?_) (fun c_4 => ?_)
      · exact absurd c_4 (by decide)
      · refine lv_iconst (v := 0) hx hb dX3_word_26 (by decide) ?_
        exact hret _ _ _ _ _ dX3_word_27 (rfl) (hP) (hD) hS
    · rcases hbad with h9 | h9
      · exact absurd h9 c_1
      · refine absurd ?_ h9
        have q := c_3
        rw [Int32.le_iff_toInt_le, show (nI rn - 4).toInt = (rn : Int) - 4 from pk_sub_toInt (b := 4) (by omega) (by omega)]
        rw [Int32.le_iff_toInt_le, show (nI rn - 3).toInt = (rn : Int) - 3 from pk_sub_toInt (b := 3) (by omega) (by omega)] at q
        omega

set_option maxHeartbeats 4000000 in
set_option maxRecDepth 100000 in
theorem m_word (l : Launch) (D : va_G) (cI cF cJ : ClassId) (mq ak ad ah am ap ag au ax al ai an ao : Nat) (fa st en cm fi im nm : Int32) (j rn : Nat) (of : Nat → Int32) (hrn : rn ≤ 2000) (hj : j + 4 ≤ rn) : kI l yX3_word wsX3_word ({ frames := 1, cells := 0, slots := 0, locals := 21 }) D (kTy cI cF cJ) [.ref mq, .int (nI j)] [(mq, .inr (3, [.int fa, .ref ak, .ref ad, .int st, .int en, .int cm, .int fi, .ref ah, .ref am, .ref ap, .ref ag, .ref au, .ref ax, .ref al, .ref ai, .int im, .ref an, .int nm, .ref ao, .int (nI rn)])), (ao, .inl (cI, 2000, .inl of))] [(mq, .inr (3, [.int 0, .ref ak, .ref ad, .int st, .int en, .int cm, .int fi, .ref ah, .ref am, .ref ap, .ref ag, .ref au, .ref ax, .ref al, .ref ai, .int im, .ref an, .int nm, .ref ao, .int (nI rn)])), (ao, .inl (cI, 2000, .inl of))] (cLo of j) := by
  refine kI_of (cc := cX3_word) (nL := 2) (ty := .int) (own := RX3) (lv := [(0, .ref mq), (1, .int (nI j))]) (by decide) rfl rfl (Nat.le_of_ble_eq_true rfl) rfl (rfl) ?_
  intro p e s m args below meth c A ls Q C hA hK hP hD hS hl hret
  obtain ⟨hx, hb, hr, hml, hown, hts, hlocks⟩ := C
  have k_47 := hts (.fieldLink RX3 47 "BranchFiltersModel" "out" "[I") (by decide +kernel)
  have k_63 := hts (.fieldLink RX3 63 "BranchFiltersModel" "outMany" "I") (by decide +kernel)
  have inX3 : ∀ w ∈ wsX30, w ∈ wsX3_word := by decide +kernel
  refine lv_aload_n hx hb dX3_word_0 rfl (lv_at hl 0 rfl) ?_
  refine lv_iload_n hx hb dX3_word_1 rfl (lv_at hl 1 rfl) ?_
  refine lv_if_lt (tgt := 19) hx hb dX3_word_2 (by decide) (fun c_1 => ?_) (fun c_1 => ?_)
  · exact absurd c_1 (nI_pos (by omega))
  · refine lv_iload_n hx hb dX3_word_5 rfl (lv_at hl 1 rfl) ?_
    refine lv_aload_n hx hb dX3_word_6 rfl (lv_at hl 0 rfl) ?_
    refine va_get (D := D) (ci := 3) (v := .int (nI rn)) (C := RX3) (T := TX3) (N := 20) hx hb hts inX3 hown hK hP 0 rfl rfl 19 (by decide) k_63 (fun _ h9 => h9) rfl dX3_word_7 ?_
    refine lv_iconst (v := 3) hx hb dX3_word_10 (by decide) ?_
    refine lv_isub hx hb dX3_word_11 ?_
    refine kTop (y := nI (rn - 3)) (pk_sub (b := 3) (by omega)) ?_
    refine lv_icmp_ge (tgt := 19) hx hb dX3_word_12 (by decide) (fun c_2 => ?_) (fun c_2 => ?_)
    · exact absurd ((kLe (a := rn - 3) (b := j) rfl rfl (by omega) (by omega)).mp c_2) (by omega)
    · refine lv_iconst (v := 0) hx hb dX3_word_15 (by decide) ?_
      refine lv_goto (tgt := 20) hx hb dX3_word_16 (by decide) ?_
      refine kCallI (As := [.int 0]) (wc := [(mq, .inr (3, [.int fa, .ref ak, .ref ad, .int st, .int en, .int cm, .int fi, .ref ah, .ref am, .ref ap, .ref ag, .ref au, .ref ax, .ref al, .ref ai, .int im, .ref an, .int nm, .ref ao, .int (nI rn)]))]) (wr := [(ao, .inl (cI, 2000, .inl of))]) (ws' := [(mq, .inr (3, [.int 0, .ref ak, .ref ad, .int st, .int en, .int cm, .int fi, .ref ah, .ref am, .ref ap, .ref ag, .ref au, .ref ax, .ref al, .ref ai, .int im, .ref an, .int nm, .ref ao, .int (nI rn)])), (ao, .inl (cI, 2000, .inl of))]) (ci := 3) (C := RX3) ⟨hx, hb, hml, hown, hts⟩ (c_X3_refused l D cI cF cJ mq ak ad ah am ap ag au ax al ai an ao fa st en cm fi im nm (nI rn) 0 ) (cwV 1 hts gX3_word_X3_refused rfl rfl rfl (by decide +kernel) ⟨Nat.le_of_ble_eq_true rfl, Nat.le_of_ble_eq_true rfl⟩) hK hP hD hS hA [0] [1] [1, 0] rfl rfl rfl rfl (by decide) rfl rfl rfl rfl rfl hl.1 (Nat.le_of_ble_eq_true rfl) ⟨Nat.zero_le _, Nat.zero_le _⟩ dX3_word_20 (fun H locs hP hD hS => ?_) rfl
      refine lv_if_eq (tgt := 28) hx hb dX3_word_23 (by decide) (fun c_3 => ?_) (fun c_3 => ?_)
      · refine lv_aload_n hx hb dX3_word_28 rfl (lv_at hl 0 rfl) ?_
        refine va_get (D := D) (ci := 3) (v := .ref ao) (C := RX3) (T := TX3) (N := 20) hx hb hts inX3 hown hK hP 0 rfl rfl 18 (by decide) k_47 (fun _ h9 => h9) rfl dX3_word_29 ?_
        refine lv_iload_n hx hb dX3_word_32 rfl (lv_at hl 1 rfl) ?_
        refine kIald (k := j) hx hb hK hP 1 0 rfl rfl (rfl) (by omega) (by omega) dX3_word_33 ?_
        refine lv_aload_n hx hb dX3_word_34 rfl (lv_at hl 0 rfl) ?_
        refine va_get (D := D) (ci := 3) (v := .ref ao) (C := RX3) (T := TX3) (N := 20) hx hb hts inX3 hown hK hP 0 rfl rfl 18 (by decide) k_47 (fun _ h9 => h9) rfl dX3_word_35 ?_
        refine lv_iload_n hx hb dX3_word_38 rfl (lv_at hl 1 rfl) ?_
        refine lv_iconst (v := 1) hx hb dX3_word_39 (by decide) ?_
        refine lv_iadd hx hb dX3_word_40 ?_
        refine kTop (y := nI (j + 1)) (nI_add j 1) ?_
        refine kIald (k := (j + 1)) hx hb hK hP 1 0 rfl rfl (rfl) (by omega) (by omega) dX3_word_41 ?_
        refine lv_bipush (v := 8) hx hb dX3_word_42 (by decide) ?_
        refine lv_ishl hx hb dX3_word_44 ?_
        refine lv_ior hx hb dX3_word_45 ?_
        refine lv_aload_n hx hb dX3_word_46 rfl (lv_at hl 0 rfl) ?_
        refine va_get (D := D) (ci := 3) (v := .ref ao) (C := RX3) (T := TX3) (N := 20) hx hb hts inX3 hown hK hP 0 rfl rfl 18 (by decide) k_47 (fun _ h9 => h9) rfl dX3_word_47 ?_
        refine lv_iload_n hx hb dX3_word_50 rfl (lv_at hl 1 rfl) ?_
        refine lv_iconst (v := 2) hx hb dX3_word_51 (by decide) ?_
        refine lv_iadd hx hb dX3_word_52 ?_
        refine kTop (y := nI (j + 2)) (nI_add j 2) ?_
        refine kIald (k := (j + 2)) hx hb hK hP 1 0 rfl rfl (rfl) (by omega) (by omega) dX3_word_53 ?_
        refine lv_bipush (v := 16) hx hb dX3_word_54 (by decide) ?_
        refine lv_ishl hx hb dX3_word_56 ?_
        refine lv_ior hx hb dX3_word_57 ?_
        refine lv_aload_n hx hb dX3_word_58 rfl (lv_at hl 0 rfl) ?_
        refine va_get (D := D) (ci := 3) (v := .ref ao) (C := RX3) (T := TX3) (N := 20) hx hb hts inX3 hown hK hP 0 rfl rfl 18 (by decide) k_47 (fun _ h9 => h9) rfl dX3_word_59 ?_
        refine lv_iload_n hx hb dX3_word_62 rfl (lv_at hl 1 rfl) ?_
        refine lv_iconst (v := 3) hx hb dX3_word_63 (by decide) ?_
        refine lv_iadd hx hb dX3_word_64 ?_
        refine kTop (y := nI (j + 3)) (nI_add j 3) ?_
        refine kIald (k := (j + 3)) hx hb hK hP 1 0 rfl rfl (rfl) (by omega) (by omega) dX3_word_65 ?_
        refine lv_bipush (v := 24) hx hb dX3_word_66 (by decide) ?_
        refine lv_ishl hx hb dX3_word_68 ?_
        refine lv_ior hx hb dX3_word_69 ?_
        exact hret _ _ _ _ _ dX3_word_70 (rfl) (hP) (hD) hS
      · exact absurd c_3 (by decide)

set_option maxHeartbeats 4000000 in
set_option maxRecDepth 100000 in
theorem m_count (l : Launch) (D : va_G) (cI cF cJ : ClassId) (mq ak ad ah am ap ag au ax al ai an ao : Nat) (fa st en cm fi im nm om : Int32) (i wn : Nat) (kf df mf gf uf xf : Nat → Int32) (hi : i < 4) (hw : wn < 6) : kI l yX3_count wsX3_count ({ frames := 1, cells := 0, slots := 0, locals := 22 }) D (kTy cI cF cJ) [.ref mq, .int (nI i), .int (nI wn)] [(mq, .inr (3, [.int fa, .ref ak, .ref ad, .int st, .int en, .int cm, .int fi, .ref ah, .ref am, .ref ap, .ref ag, .ref au, .ref ax, .ref al, .ref ai, .int im, .ref an, .int nm, .ref ao, .int om])), (ak, .inl (cI, 4, .inl kf)), (ad, .inl (cI, 4, .inl df)), (am, .inl (cI, 4, .inl mf)), (ag, .inl (cI, 4, .inl gf)), (au, .inl (cI, 4, .inl uf)), (ax, .inl (cI, 4, .inl xf))] [(mq, .inr (3, [.int 0, .ref ak, .ref ad, .int st, .int en, .int cm, .int fi, .ref ah, .ref am, .ref ap, .ref ag, .ref au, .ref ax, .ref al, .ref ai, .int im, .ref an, .int nm, .ref ao, .int om])), (ak, .inl (cI, 4, .inl kf)), (ad, .inl (cI, 4, .inl df)), (am, .inl (cI, 4, .inl mf)), (ag, .inl (cI, 4, .inl gf)), (au, .inl (cI, 4, .inl uf)), (ax, .inl (cI, 4, .inl xf))] (mCnt kf df mf gf uf xf i wn) := by
  refine kI_of (cc := cX3_count) (nL := 3) (ty := .int) (own := RX3) (lv := [(0, .ref mq), (1, .int (nI i)), (2, .int (nI wn))]) (by decide) rfl rfl (Nat.le_of_ble_eq_true rfl) rfl (rfl) ?_
  intro p e s m args below meth c A ls Q C hA hK hP hD hS hl hret
  obtain ⟨hx, hb, hr, hml, hown, hts, hlocks⟩ := C
  have k_13 := hts (.fieldLink RX3 13 "BranchFiltersModel" "distance" "[I") (by decide +kernel)
  have k_23 := hts (.fieldLink RX3 23 "BranchFiltersModel" "heldMany" "[I") (by decide +kernel)
  have k_29 := hts (.fieldLink RX3 29 "BranchFiltersModel" "given" "[I") (by decide +kernel)
  have k_32 := hts (.fieldLink RX3 32 "BranchFiltersModel" "put" "[I") (by decide +kernel)
  have k_35 := hts (.fieldLink RX3 35 "BranchFiltersModel" "mask" "[I") (by decide +kernel)
  have k_7 := hts (.fieldLink RX3 7 "BranchFiltersModel" "kind" "[I") (by decide +kernel)
  have inX3 : ∀ w ∈ wsX30, w ∈ wsX3_count := by decide +kernel
  have hc : wn = 0 ∨ wn = 1 ∨ wn = 2 ∨ wn = 3 ∨ wn = 4 ∨ wn = 5 := by omega
  rcases hc with rfl | rfl | rfl | rfl | rfl | rfl
  · refine lv_aload_n hx hb dX3_count_0 rfl (lv_at hl 0 rfl) ?_
    refine lv_iload_n hx hb dX3_count_1 rfl (lv_at hl 1 rfl) ?_
    refine lv_iconst (v := 0) hx hb dX3_count_2 (by decide) ?_
    refine lv_iconst (v := 3) hx hb dX3_count_3 (by decide) ?_
    refine kCallS (As := [.int (nI i), .int 0, .int 3]) ⟨hx, hb, hml, hown, hts⟩ (c_X3_isIn l D cI cF cJ (nI i) 0 3 ) (cwS 3 hts gX3_count_X3_isIn rfl rfl rfl (by decide +kernel) ⟨Nat.le_of_ble_eq_true rfl, Nat.le_of_ble_eq_true rfl⟩) hK hP hD hS hA rfl hl.1 (Nat.le_of_ble_eq_true rfl) ⟨Nat.zero_le _, Nat.zero_le _⟩ dX3_count_4 (fun H locs hP hD hS => ?_) rfl
    refine lv_if_eq (tgt := 23) hx hb dX3_count_7 (by decide) (fun c_1 => ?_) (fun c_1 => ?_)
    · exact absurd c_1 (by rw [rIn_04 i hi]; decide)
    · refine lv_iload_n hx hb dX3_count_10 rfl (lv_at hl 2 rfl) ?_
      refine lv_iconst (v := 0) hx hb dX3_count_11 (by decide) ?_
      refine lv_iconst (v := 5) hx hb dX3_count_12 (by decide) ?_
      refine kCallS (As := [.int (nI 0), .int 0, .int 5]) ⟨hx, hb, hml, hown, hts⟩ (c_X3_isIn l D cI cF cJ (nI 0) 0 5 ) (cwS 3 hts gX3_count_X3_isIn rfl rfl rfl (by decide +kernel) ⟨Nat.le_of_ble_eq_true rfl, Nat.le_of_ble_eq_true rfl⟩) hK hP hD hS hA rfl hl.1 (Nat.le_of_ble_eq_true rfl) ⟨Nat.zero_le _, Nat.zero_le _⟩ dX3_count_13 (fun H locs hP hD hS => ?_) rfl
      refine lv_if_eq (tgt := 23) hx hb dX3_count_16 (by decide) (fun c_2 => ?_) (fun c_2 => ?_)
      · exact absurd c_2 (by decide)
      · refine lv_iconst (v := 0) hx hb dX3_count_19 (by decide) ?_
        refine lv_goto (tgt := 24) hx hb dX3_count_20 (by decide) ?_
        refine kCallI (As := [.int 0]) (wc := [(mq, .inr (3, [.int fa, .ref ak, .ref ad, .int st, .int en, .int cm, .int fi, .ref ah, .ref am, .ref ap, .ref ag, .ref au, .ref ax, .ref al, .ref ai, .int im, .ref an, .int nm, .ref ao, .int om]))]) (wr := [(ak, .inl (cI, 4, .inl kf)), (ad, .inl (cI, 4, .inl df)), (am, .inl (cI, 4, .inl mf)), (ag, .inl (cI, 4, .inl gf)), (au, .inl (cI, 4, .inl uf)), (ax, .inl (cI, 4, .inl xf))]) (ws' := [(mq, .inr (3, [.int 0, .ref ak, .ref ad, .int st, .int en, .int cm, .int fi, .ref ah, .ref am, .ref ap, .ref ag, .ref au, .ref ax, .ref al, .ref ai, .int im, .ref an, .int nm, .ref ao, .int om])), (ak, .inl (cI, 4, .inl kf)), (ad, .inl (cI, 4, .inl df)), (am, .inl (cI, 4, .inl mf)), (ag, .inl (cI, 4, .inl gf)), (au, .inl (cI, 4, .inl uf)), (ax, .inl (cI, 4, .inl xf))]) (ci := 3) (C := RX3) ⟨hx, hb, hml, hown, hts⟩ (c_X3_refused l D cI cF cJ mq ak ad ah am ap ag au ax al ai an ao fa st en cm fi im nm om 0 ) (cwV 1 hts gX3_count_X3_refused rfl rfl rfl (by decide +kernel) ⟨Nat.le_of_ble_eq_true rfl, Nat.le_of_ble_eq_true rfl⟩) hK hP hD hS hA [0] [1, 2, 3, 4, 5, 6] [6, 0, 1, 2, 3, 4, 5] rfl rfl rfl rfl (by decide) rfl rfl rfl rfl rfl hl.1 (Nat.le_of_ble_eq_true rfl) ⟨Nat.zero_le _, Nat.zero_le _⟩ dX3_count_24 (fun H locs hP hD hS => ?_) rfl
        refine lv_if_eq (tgt := 32) hx hb dX3_count_27 (by decide) (fun c_3 => ?_) (fun c_3 => ?_)
        · refine lv_iload_n hx hb dX3_count_32 rfl (lv_at hl 2 rfl) ?_
          refine lv_tableIn (tgt := 68) hx hb dX3_count_33 (by decide) (by decide) rfl (by decide) ?_
          refine lv_aload_n hx hb dX3_count_68 rfl (lv_at hl 0 rfl) ?_
          refine va_get (D := D) (ci := 3) (v := .ref ak) (C := RX3) (T := TX3) (N := 20) hx hb hts inX3 hown hK hP 0 rfl rfl 1 (by decide) k_7 (fun _ h9 => h9) rfl dX3_count_69 ?_
          refine lv_iload_n hx hb dX3_count_72 rfl (lv_at hl 1 rfl) ?_
          refine kIald (k := i) hx hb hK hP 1 0 rfl rfl (rfl) (by omega) (by omega) dX3_count_73 ?_
          exact hret _ _ _ _ _ dX3_count_74 rfl hP hD hS
        · exact absurd c_3 (by decide)
  · refine lv_aload_n hx hb dX3_count_0 rfl (lv_at hl 0 rfl) ?_
    refine lv_iload_n hx hb dX3_count_1 rfl (lv_at hl 1 rfl) ?_
    refine lv_iconst (v := 0) hx hb dX3_count_2 (by decide) ?_
    refine lv_iconst (v := 3) hx hb dX3_count_3 (by decide) ?_
    refine kCallS (As := [.int (nI i), .int 0, .int 3]) ⟨hx, hb, hml, hown, hts⟩ (c_X3_isIn l D cI cF cJ (nI i) 0 3 ) (cwS 3 hts gX3_count_X3_isIn rfl rfl rfl (by decide +kernel) ⟨Nat.le_of_ble_eq_true rfl, Nat.le_of_ble_eq_true rfl⟩) hK hP hD hS hA rfl hl.1 (Nat.le_of_ble_eq_true rfl) ⟨Nat.zero_le _, Nat.zero_le _⟩ dX3_count_4 (fun H locs hP hD hS => ?_) rfl
    refine lv_if_eq (tgt := 23) hx hb dX3_count_7 (by decide) (fun c_4 => ?_) (fun c_4 => ?_)
    · exact absurd c_4 (by rw [rIn_04 i hi]; decide)
    · refine lv_iload_n hx hb dX3_count_10 rfl (lv_at hl 2 rfl) ?_
      refine lv_iconst (v := 0) hx hb dX3_count_11 (by decide) ?_
      refine lv_iconst (v := 5) hx hb dX3_count_12 (by decide) ?_
      refine kCallS (As := [.int (nI 1), .int 0, .int 5]) ⟨hx, hb, hml, hown, hts⟩ (c_X3_isIn l D cI cF cJ (nI 1) 0 5 ) (cwS 3 hts gX3_count_X3_isIn rfl rfl rfl (by decide +kernel) ⟨Nat.le_of_ble_eq_true rfl, Nat.le_of_ble_eq_true rfl⟩) hK hP hD hS hA rfl hl.1 (Nat.le_of_ble_eq_true rfl) ⟨Nat.zero_le _, Nat.zero_le _⟩ dX3_count_13 (fun H locs hP hD hS => ?_) rfl
      refine lv_if_eq (tgt := 23) hx hb dX3_count_16 (by decide) (fun c_5 => ?_) (fun c_5 => ?_)
      · exact absurd c_5 (by decide)
      · refine lv_iconst (v := 0) hx hb dX3_count_19 (by decide) ?_
        refine lv_goto (tgt := 24) hx hb dX3_count_20 (by decide) ?_
        refine kCallI (As := [.int 0]) (wc := [(mq, .inr (3, [.int fa, .ref ak, .ref ad, .int st, .int en, .int cm, .int fi, .ref ah, .ref am, .ref ap, .ref ag, .ref au, .ref ax, .ref al, .ref ai, .int im, .ref an, .int nm, .ref ao, .int om]))]) (wr := [(ak, .inl (cI, 4, .inl kf)), (ad, .inl (cI, 4, .inl df)), (am, .inl (cI, 4, .inl mf)), (ag, .inl (cI, 4, .inl gf)), (au, .inl (cI, 4, .inl uf)), (ax, .inl (cI, 4, .inl xf))]) (ws' := [(mq, .inr (3, [.int 0, .ref ak, .ref ad, .int st, .int en, .int cm, .int fi, .ref ah, .ref am, .ref ap, .ref ag, .ref au, .ref ax, .ref al, .ref ai, .int im, .ref an, .int nm, .ref ao, .int om])), (ak, .inl (cI, 4, .inl kf)), (ad, .inl (cI, 4, .inl df)), (am, .inl (cI, 4, .inl mf)), (ag, .inl (cI, 4, .inl gf)), (au, .inl (cI, 4, .inl uf)), (ax, .inl (cI, 4, .inl xf))]) (ci := 3) (C := RX3) ⟨hx, hb, hml, hown, hts⟩ (c_X3_refused l D cI cF cJ mq ak ad ah am ap ag au ax al ai an ao fa st en cm fi im nm om 0 ) (cwV 1 hts gX3_count_X3_refused rfl rfl rfl (by decide +kernel) ⟨Nat.le_of_ble_eq_true rfl, Nat.le_of_ble_eq_true rfl⟩) hK hP hD hS hA [0] [1, 2, 3, 4, 5, 6] [6, 0, 1, 2, 3, 4, 5] rfl rfl rfl rfl (by decide) rfl rfl rfl rfl rfl hl.1 (Nat.le_of_ble_eq_true rfl) ⟨Nat.zero_le _, Nat.zero_le _⟩ dX3_count_24 (fun H locs hP hD hS => ?_) rfl
        refine lv_if_eq (tgt := 32) hx hb dX3_count_27 (by decide) (fun c_6 => ?_) (fun c_6 => ?_)
        · refine lv_iload_n hx hb dX3_count_32 rfl (lv_at hl 2 rfl) ?_
          refine lv_tableIn (tgt := 75) hx hb dX3_count_33 (by decide) (by decide) rfl (by decide) ?_
          refine lv_aload_n hx hb dX3_count_75 rfl (lv_at hl 0 rfl) ?_
          refine va_get (D := D) (ci := 3) (v := .ref ad) (C := RX3) (T := TX3) (N := 20) hx hb hts inX3 hown hK hP 0 rfl rfl 2 (by decide) k_13 (fun _ h9 => h9) rfl dX3_count_76 ?_
          refine lv_iload_n hx hb dX3_count_79 rfl (lv_at hl 1 rfl) ?_
          refine kIald (k := i) hx hb hK hP 2 0 rfl rfl (rfl) (by omega) (by omega) dX3_count_80 ?_
          exact hret _ _ _ _ _ dX3_count_81 rfl hP hD hS
        · exact absurd c_6 (by decide)
  · refine lv_aload_n hx hb dX3_count_0 rfl (lv_at hl 0 rfl) ?_
    refine lv_iload_n hx hb dX3_count_1 rfl (lv_at hl 1 rfl) ?_
    refine lv_iconst (v := 0) hx hb dX3_count_2 (by decide) ?_
    refine lv_iconst (v := 3) hx hb dX3_count_3 (by decide) ?_
    refine kCallS (As := [.int (nI i), .int 0, .int 3]) ⟨hx, hb, hml, hown, hts⟩ (c_X3_isIn l D cI cF cJ (nI i) 0 3 ) (cwS 3 hts gX3_count_X3_isIn rfl rfl rfl (by decide +kernel) ⟨Nat.le_of_ble_eq_true rfl, Nat.le_of_ble_eq_true rfl⟩) hK hP hD hS hA rfl hl.1 (Nat.le_of_ble_eq_true rfl) ⟨Nat.zero_le _, Nat.zero_le _⟩ dX3_count_4 (fun H locs hP hD hS => ?_) rfl
    refine lv_if_eq (tgt := 23) hx hb dX3_count_7 (by decide) (fun c_7 => ?_) (fun c_7 => ?_)
    · exact absurd c_7 (by rw [rIn_04 i hi]; decide)
    · refine lv_iload_n hx hb dX3_count_10 rfl (lv_at hl 2 rfl) ?_
      refine lv_iconst (v := 0) hx hb dX3_count_11 (by decide) ?_
      refine lv_iconst (v := 5) hx hb dX3_count_12 (by decide) ?_
      refine kCallS (As := [.int (nI 2), .int 0, .int 5]) ⟨hx, hb, hml, hown, hts⟩ (c_X3_isIn l D cI cF cJ (nI 2) 0 5 ) (cwS 3 hts gX3_count_X3_isIn rfl rfl rfl (by decide +kernel) ⟨Nat.le_of_ble_eq_true rfl, Nat.le_of_ble_eq_true rfl⟩) hK hP hD hS hA rfl hl.1 (Nat.le_of_ble_eq_true rfl) ⟨Nat.zero_le _, Nat.zero_le _⟩ dX3_count_13 (fun H locs hP hD hS => ?_) rfl
      refine lv_if_eq (tgt := 23) hx hb dX3_count_16 (by decide) (fun c_8 => ?_) (fun c_8 => ?_)
      · exact absurd c_8 (by decide)
      · refine lv_iconst (v := 0) hx hb dX3_count_19 (by decide) ?_
        refine lv_goto (tgt := 24) hx hb dX3_count_20 (by decide) ?_
        refine kCallI (As := [.int 0]) (wc := [(mq, .inr (3, [.int fa, .ref ak, .ref ad, .int st, .int en, .int cm, .int fi, .ref ah, .ref am, .ref ap, .ref ag, .ref au, .ref ax, .ref al, .ref ai, .int im, .ref an, .int nm, .ref ao, .int om]))]) (wr := [(ak, .inl (cI, 4, .inl kf)), (ad, .inl (cI, 4, .inl df)), (am, .inl (cI, 4, .inl mf)), (ag, .inl (cI, 4, .inl gf)), (au, .inl (cI, 4, .inl uf)), (ax, .inl (cI, 4, .inl xf))]) (ws' := [(mq, .inr (3, [.int 0, .ref ak, .ref ad, .int st, .int en, .int cm, .int fi, .ref ah, .ref am, .ref ap, .ref ag, .ref au, .ref ax, .ref al, .ref ai, .int im, .ref an, .int nm, .ref ao, .int om])), (ak, .inl (cI, 4, .inl kf)), (ad, .inl (cI, 4, .inl df)), (am, .inl (cI, 4, .inl mf)), (ag, .inl (cI, 4, .inl gf)), (au, .inl (cI, 4, .inl uf)), (ax, .inl (cI, 4, .inl xf))]) (ci := 3) (C := RX3) ⟨hx, hb, hml, hown, hts⟩ (c_X3_refused l D cI cF cJ mq ak ad ah am ap ag au ax al ai an ao fa st en cm fi im nm om 0 ) (cwV 1 hts gX3_count_X3_refused rfl rfl rfl (by decide +kernel) ⟨Nat.le_of_ble_eq_true rfl, Nat.le_of_ble_eq_true rfl⟩) hK hP hD hS hA [0] [1, 2, 3, 4, 5, 6] [6, 0, 1, 2, 3, 4, 5] rfl rfl rfl rfl (by decide) rfl rfl rfl rfl rfl hl.1 (Nat.le_of_ble_eq_true rfl) ⟨Nat.zero_le _, Nat.zero_le _⟩ dX3_count_24 (fun H locs hP hD hS => ?_) rfl
        refine lv_if_eq (tgt := 32) hx hb dX3_count_27 (by decide) (fun c_9 => ?_) (fun c_9 => ?_)
        · refine lv_iload_n hx hb dX3_count_32 rfl (lv_at hl 2 rfl) ?_
          refine lv_tableIn (tgt := 82) hx hb dX3_count_33 (by decide) (by decide) rfl (by decide) ?_
          refine lv_aload_n hx hb dX3_count_82 rfl (lv_at hl 0 rfl) ?_
          refine va_get (D := D) (ci := 3) (v := .ref am) (C := RX3) (T := TX3) (N := 20) hx hb hts inX3 hown hK hP 0 rfl rfl 8 (by decide) k_23 (fun _ h9 => h9) rfl dX3_count_83 ?_
          refine lv_iload_n hx hb dX3_count_86 rfl (lv_at hl 1 rfl) ?_
          refine kIald (k := i) hx hb hK hP 3 0 rfl rfl (rfl) (by omega) (by omega) dX3_count_87 ?_
          exact hret _ _ _ _ _ dX3_count_88 rfl hP hD hS
        · exact absurd c_9 (by decide)
  · refine lv_aload_n hx hb dX3_count_0 rfl (lv_at hl 0 rfl) ?_
    refine lv_iload_n hx hb dX3_count_1 rfl (lv_at hl 1 rfl) ?_
    refine lv_iconst (v := 0) hx hb dX3_count_2 (by decide) ?_
    refine lv_iconst (v := 3) hx hb dX3_count_3 (by decide) ?_
    refine kCallS (As := [.int (nI i), .int 0, .int 3]) ⟨hx, hb, hml, hown, hts⟩ (c_X3_isIn l D cI cF cJ (nI i) 0 3 ) (cwS 3 hts gX3_count_X3_isIn rfl rfl rfl (by decide +kernel) ⟨Nat.le_of_ble_eq_true rfl, Nat.le_of_ble_eq_true rfl⟩) hK hP hD hS hA rfl hl.1 (Nat.le_of_ble_eq_true rfl) ⟨Nat.zero_le _, Nat.zero_le _⟩ dX3_count_4 (fun H locs hP hD hS => ?_) rfl
    refine lv_if_eq (tgt := 23) hx hb dX3_count_7 (by decide) (fun c_10 => ?_) (fun c_10 => ?_)
    · exact absurd c_10 (by rw [rIn_04 i hi]; decide)
    · refine lv_iload_n hx hb dX3_count_10 rfl (lv_at hl 2 rfl) ?_
      refine lv_iconst (v := 0) hx hb dX3_count_11 (by decide) ?_
      refine lv_iconst (v := 5) hx hb dX3_count_12 (by decide) ?_
      refine kCallS (As := [.int (nI 3), .int 0, .int 5]) ⟨hx, hb, hml, hown, hts⟩ (c_X3_isIn l D cI cF cJ (nI 3) 0 5 ) (cwS 3 hts gX3_count_X3_isIn rfl rfl rfl (by decide +kernel) ⟨Nat.le_of_ble_eq_true rfl, Nat.le_of_ble_eq_true rfl⟩) hK hP hD hS hA rfl hl.1 (Nat.le_of_ble_eq_true rfl) ⟨Nat.zero_le _, Nat.zero_le _⟩ dX3_count_13 (fun H locs hP hD hS => ?_) rfl
      refine lv_if_eq (tgt := 23) hx hb dX3_count_16 (by decide) (fun c_11 => ?_) (fun c_11 => ?_)
      · exact absurd c_11 (by decide)
      · refine lv_iconst (v := 0) hx hb dX3_count_19 (by decide) ?_
        refine lv_goto (tgt := 24) hx hb dX3_count_20 (by decide) ?_
        refine kCallI (As := [.int 0]) (wc := [(mq, .inr (3, [.int fa, .ref ak, .ref ad, .int st, .int en, .int cm, .int fi, .ref ah, .ref am, .ref ap, .ref ag, .ref au, .ref ax, .ref al, .ref ai, .int im, .ref an, .int nm, .ref ao, .int om]))]) (wr := [(ak, .inl (cI, 4, .inl kf)), (ad, .inl (cI, 4, .inl df)), (am, .inl (cI, 4, .inl mf)), (ag, .inl (cI, 4, .inl gf)), (au, .inl (cI, 4, .inl uf)), (ax, .inl (cI, 4, .inl xf))]) (ws' := [(mq, .inr (3, [.int 0, .ref ak, .ref ad, .int st, .int en, .int cm, .int fi, .ref ah, .ref am, .ref ap, .ref ag, .ref au, .ref ax, .ref al, .ref ai, .int im, .ref an, .int nm, .ref ao, .int om])), (ak, .inl (cI, 4, .inl kf)), (ad, .inl (cI, 4, .inl df)), (am, .inl (cI, 4, .inl mf)), (ag, .inl (cI, 4, .inl gf)), (au, .inl (cI, 4, .inl uf)), (ax, .inl (cI, 4, .inl xf))]) (ci := 3) (C := RX3) ⟨hx, hb, hml, hown, hts⟩ (c_X3_refused l D cI cF cJ mq ak ad ah am ap ag au ax al ai an ao fa st en cm fi im nm om 0 ) (cwV 1 hts gX3_count_X3_refused rfl rfl rfl (by decide +kernel) ⟨Nat.le_of_ble_eq_true rfl, Nat.le_of_ble_eq_true rfl⟩) hK hP hD hS hA [0] [1, 2, 3, 4, 5, 6] [6, 0, 1, 2, 3, 4, 5] rfl rfl rfl rfl (by decide) rfl rfl rfl rfl rfl hl.1 (Nat.le_of_ble_eq_true rfl) ⟨Nat.zero_le _, Nat.zero_le _⟩ dX3_count_24 (fun H locs hP hD hS => ?_) rfl
        refine lv_if_eq (tgt := 32) hx hb dX3_count_27 (by decide) (fun c_12 => ?_) (fun c_12 => ?_)
        · refine lv_iload_n hx hb dX3_count_32 rfl (lv_at hl 2 rfl) ?_
          refine lv_tableIn (tgt := 89) hx hb dX3_count_33 (by decide) (by decide) rfl (by decide) ?_
          refine lv_aload_n hx hb dX3_count_89 rfl (lv_at hl 0 rfl) ?_
          refine va_get (D := D) (ci := 3) (v := .ref ag) (C := RX3) (T := TX3) (N := 20) hx hb hts inX3 hown hK hP 0 rfl rfl 10 (by decide) k_29 (fun _ h9 => h9) rfl dX3_count_90 ?_
          refine lv_iload_n hx hb dX3_count_93 rfl (lv_at hl 1 rfl) ?_
          refine kIald (k := i) hx hb hK hP 4 0 rfl rfl (rfl) (by omega) (by omega) dX3_count_94 ?_
          exact hret _ _ _ _ _ dX3_count_95 rfl hP hD hS
        · exact absurd c_12 (by decide)
  · refine lv_aload_n hx hb dX3_count_0 rfl (lv_at hl 0 rfl) ?_
    refine lv_iload_n hx hb dX3_count_1 rfl (lv_at hl 1 rfl) ?_
    refine lv_iconst (v := 0) hx hb dX3_count_2 (by decide) ?_
    refine lv_iconst (v := 3) hx hb dX3_count_3 (by decide) ?_
    refine kCallS (As := [.int (nI i), .int 0, .int 3]) ⟨hx, hb, hml, hown, hts⟩ (c_X3_isIn l D cI cF cJ (nI i) 0 3 ) (cwS 3 hts gX3_count_X3_isIn rfl rfl rfl (by decide +kernel) ⟨Nat.le_of_ble_eq_true rfl, Nat.le_of_ble_eq_true rfl⟩) hK hP hD hS hA rfl hl.1 (Nat.le_of_ble_eq_true rfl) ⟨Nat.zero_le _, Nat.zero_le _⟩ dX3_count_4 (fun H locs hP hD hS => ?_) rfl
    refine lv_if_eq (tgt := 23) hx hb dX3_count_7 (by decide) (fun c_13 => ?_) (fun c_13 => ?_)
    · exact absurd c_13 (by rw [rIn_04 i hi]; decide)
    · refine lv_iload_n hx hb dX3_count_10 rfl (lv_at hl 2 rfl) ?_
      refine lv_iconst (v := 0) hx hb dX3_count_11 (by decide) ?_
      refine lv_iconst (v := 5) hx hb dX3_count_12 (by decide) ?_
      refine kCallS (As := [.int (nI 4), .int 0, .int 5]) ⟨hx, hb, hml, hown, hts⟩ (c_X3_isIn l D cI cF cJ (nI 4) 0 5 ) (cwS 3 hts gX3_count_X3_isIn rfl rfl rfl (by decide +kernel) ⟨Nat.le_of_ble_eq_true rfl, Nat.le_of_ble_eq_true rfl⟩) hK hP hD hS hA rfl hl.1 (Nat.le_of_ble_eq_true rfl) ⟨Nat.zero_le _, Nat.zero_le _⟩ dX3_count_13 (fun H locs hP hD hS => ?_) rfl
      refine lv_if_eq (tgt := 23) hx hb dX3_count_16 (by decide) (fun c_14 => ?_) (fun c_14 => ?_)
      · exact absurd c_14 (by decide)
      · refine lv_iconst (v := 0) hx hb dX3_count_19 (by decide) ?_
        refine lv_goto (tgt := 24) hx hb dX3_count_20 (by decide) ?_
        refine kCallI (As := [.int 0]) (wc := [(mq, .inr (3, [.int fa, .ref ak, .ref ad, .int st, .int en, .int cm, .int fi, .ref ah, .ref am, .ref ap, .ref ag, .ref au, .ref ax, .ref al, .ref ai, .int im, .ref an, .int nm, .ref ao, .int om]))]) (wr := [(ak, .inl (cI, 4, .inl kf)), (ad, .inl (cI, 4, .inl df)), (am, .inl (cI, 4, .inl mf)), (ag, .inl (cI, 4, .inl gf)), (au, .inl (cI, 4, .inl uf)), (ax, .inl (cI, 4, .inl xf))]) (ws' := [(mq, .inr (3, [.int 0, .ref ak, .ref ad, .int st, .int en, .int cm, .int fi, .ref ah, .ref am, .ref ap, .ref ag, .ref au, .ref ax, .ref al, .ref ai, .int im, .ref an, .int nm, .ref ao, .int om])), (ak, .inl (cI, 4, .inl kf)), (ad, .inl (cI, 4, .inl df)), (am, .inl (cI, 4, .inl mf)), (ag, .inl (cI, 4, .inl gf)), (au, .inl (cI, 4, .inl uf)), (ax, .inl (cI, 4, .inl xf))]) (ci := 3) (C := RX3) ⟨hx, hb, hml, hown, hts⟩ (c_X3_refused l D cI cF cJ mq ak ad ah am ap ag au ax al ai an ao fa st en cm fi im nm om 0 ) (cwV 1 hts gX3_count_X3_refused rfl rfl rfl (by decide +kernel) ⟨Nat.le_of_ble_eq_true rfl, Nat.le_of_ble_eq_true rfl⟩) hK hP hD hS hA [0] [1, 2, 3, 4, 5, 6] [6, 0, 1, 2, 3, 4, 5] rfl rfl rfl rfl (by decide) rfl rfl rfl rfl rfl hl.1 (Nat.le_of_ble_eq_true rfl) ⟨Nat.zero_le _, Nat.zero_le _⟩ dX3_count_24 (fun H locs hP hD hS => ?_) rfl
        refine lv_if_eq (tgt := 32) hx hb dX3_count_27 (by decide) (fun c_15 => ?_) (fun c_15 => ?_)
        · refine lv_iload_n hx hb dX3_count_32 rfl (lv_at hl 2 rfl) ?_
          refine lv_tableIn (tgt := 96) hx hb dX3_count_33 (by decide) (by decide) rfl (by decide) ?_
          refine lv_aload_n hx hb dX3_count_96 rfl (lv_at hl 0 rfl) ?_
          refine va_get (D := D) (ci := 3) (v := .ref au) (C := RX3) (T := TX3) (N := 20) hx hb hts inX3 hown hK hP 0 rfl rfl 11 (by decide) k_32 (fun _ h9 => h9) rfl dX3_count_97 ?_
          refine lv_iload_n hx hb dX3_count_100 rfl (lv_at hl 1 rfl) ?_
          refine kIald (k := i) hx hb hK hP 5 0 rfl rfl (rfl) (by omega) (by omega) dX3_count_101 ?_
          exact hret _ _ _ _ _ dX3_count_102 rfl hP hD hS
        · exact absurd c_15 (by decide)
  · refine lv_aload_n hx hb dX3_count_0 rfl (lv_at hl 0 rfl) ?_
    refine lv_iload_n hx hb dX3_count_1 rfl (lv_at hl 1 rfl) ?_
    refine lv_iconst (v := 0) hx hb dX3_count_2 (by decide) ?_
    refine lv_iconst (v := 3) hx hb dX3_count_3 (by decide) ?_
    refine kCallS (As := [.int (nI i), .int 0, .int 3]) ⟨hx, hb, hml, hown, hts⟩ (c_X3_isIn l D cI cF cJ (nI i) 0 3 ) (cwS 3 hts gX3_count_X3_isIn rfl rfl rfl (by decide +kernel) ⟨Nat.le_of_ble_eq_true rfl, Nat.le_of_ble_eq_true rfl⟩) hK hP hD hS hA rfl hl.1 (Nat.le_of_ble_eq_true rfl) ⟨Nat.zero_le _, Nat.zero_le _⟩ dX3_count_4 (fun H locs hP hD hS => ?_) rfl
    refine lv_if_eq (tgt := 23) hx hb dX3_count_7 (by decide) (fun c_16 => ?_) (fun c_16 => ?_)
    · exact absurd c_16 (by rw [rIn_04 i hi]; decide)
    · refine lv_iload_n hx hb dX3_count_10 rfl (lv_at hl 2 rfl) ?_
      refine lv_iconst (v := 0) hx hb dX3_count_11 (by decide) ?_
      refine lv_iconst (v := 5) hx hb dX3_count_12 (by decide) ?_
      refine kCallS (As := [.int (nI 5), .int 0, .int 5]) ⟨hx, hb, hml, hown, hts⟩ (c_X3_isIn l D cI cF cJ (nI 5) 0 5 ) (cwS 3 hts gX3_count_X3_isIn rfl rfl rfl (by decide +kernel) ⟨Nat.le_of_ble_eq_true rfl, Nat.le_of_ble_eq_true rfl⟩) hK hP hD hS hA rfl hl.1 (Nat.le_of_ble_eq_true rfl) ⟨Nat.zero_le _, Nat.zero_le _⟩ dX3_count_13 (fun H locs hP hD hS => ?_) rfl
      refine lv_if_eq (tgt := 23) hx hb dX3_count_16 (by decide) (fun c_17 => ?_) (fun c_17 => ?_)
      · exact absurd c_17 (by decide)
      · refine lv_iconst (v := 0) hx hb dX3_count_19 (by decide) ?_
        refine lv_goto (tgt := 24) hx hb dX3_count_20 (by decide) ?_
        refine kCallI (As := [.int 0]) (wc := [(mq, .inr (3, [.int fa, .ref ak, .ref ad, .int st, .int en, .int cm, .int fi, .ref ah, .ref am, .ref ap, .ref ag, .ref au, .ref ax, .ref al, .ref ai, .int im, .ref an, .int nm, .ref ao, .int om]))]) (wr := [(ak, .inl (cI, 4, .inl kf)), (ad, .inl (cI, 4, .inl df)), (am, .inl (cI, 4, .inl mf)), (ag, .inl (cI, 4, .inl gf)), (au, .inl (cI, 4, .inl uf)), (ax, .inl (cI, 4, .inl xf))]) (ws' := [(mq, .inr (3, [.int 0, .ref ak, .ref ad, .int st, .int en, .int cm, .int fi, .ref ah, .ref am, .ref ap, .ref ag, .ref au, .ref ax, .ref al, .ref ai, .int im, .ref an, .int nm, .ref ao, .int om])), (ak, .inl (cI, 4, .inl kf)), (ad, .inl (cI, 4, .inl df)), (am, .inl (cI, 4, .inl mf)), (ag, .inl (cI, 4, .inl gf)), (au, .inl (cI, 4, .inl uf)), (ax, .inl (cI, 4, .inl xf))]) (ci := 3) (C := RX3) ⟨hx, hb, hml, hown, hts⟩ (c_X3_refused l D cI cF cJ mq ak ad ah am ap ag au ax al ai an ao fa st en cm fi im nm om 0 ) (cwV 1 hts gX3_count_X3_refused rfl rfl rfl (by decide +kernel) ⟨Nat.le_of_ble_eq_true rfl, Nat.le_of_ble_eq_true rfl⟩) hK hP hD hS hA [0] [1, 2, 3, 4, 5, 6] [6, 0, 1, 2, 3, 4, 5] rfl rfl rfl rfl (by decide) rfl rfl rfl rfl rfl hl.1 (Nat.le_of_ble_eq_true rfl) ⟨Nat.zero_le _, Nat.zero_le _⟩ dX3_count_24 (fun H locs hP hD hS => ?_) rfl
        refine lv_if_eq (tgt := 32) hx hb dX3_count_27 (by decide) (fun c_18 => ?_) (fun c_18 => ?_)
        · refine lv_iload_n hx hb dX3_count_32 rfl (lv_at hl 2 rfl) ?_
          refine lv_tableOut (tgt := 103) hx hb dX3_count_33 (Or.inr (by decide)) (by decide) ?_
          refine lv_aload_n hx hb dX3_count_103 rfl (lv_at hl 0 rfl) ?_
          refine va_get (D := D) (ci := 3) (v := .ref ak) (C := RX3) (T := TX3) (N := 20) hx hb hts inX3 hown hK hP 0 rfl rfl 1 (by decide) k_7 (fun _ h9 => h9) rfl dX3_count_104 ?_
          refine lv_iload_n hx hb dX3_count_107 rfl (lv_at hl 1 rfl) ?_
          refine kIald (k := i) hx hb hK hP 1 0 rfl rfl (rfl) (by omega) (by omega) dX3_count_108 ?_
          refine lv_iconst (v := 2) hx hb dX3_count_109 (by decide) ?_
          refine lv_icmp_ne (tgt := 122) hx hb dX3_count_110 (by decide) (fun c_19 => ?_) (fun c_19 => ?_)
          · refine lv_iconst (v := 0) hx hb dX3_count_122 (by decide) ?_
            exact hret _ _ _ _ _ dX3_count_123 (if_neg c_19).symm hP hD hS
          · refine lv_aload_n hx hb dX3_count_113 rfl (lv_at hl 0 rfl) ?_
            refine va_get (D := D) (ci := 3) (v := .ref ax) (C := RX3) (T := TX3) (N := 20) hx hb hts inX3 hown hK hP 0 rfl rfl 12 (by decide) k_35 (fun _ h9 => h9) rfl dX3_count_114 ?_
            refine lv_iload_n hx hb dX3_count_117 rfl (lv_at hl 1 rfl) ?_
            refine kIald (k := i) hx hb hK hP 6 0 rfl rfl (rfl) (by omega) (by omega) dX3_count_118 ?_
            refine lv_goto (tgt := 123) hx hb dX3_count_119 (by decide) ?_
            exact hret _ _ _ _ _ dX3_count_123 (if_pos c_19).symm hP hD hS
        · exact absurd c_18 (by decide)

set_option maxHeartbeats 4000000 in
set_option maxRecDepth 100000 in
theorem mt_count (l : Launch) (D : va_G) (cI cF cJ : ClassId) (mq ak ad ah am ap ag au ax al ai an ao : Nat) (fa st en cm fi im nm om : Int32) (x y : Int32) (hbad : x < 0 ∨ ¬ x < 4 ∨ y.toInt < 0 ∨ 5 < y.toInt) : kI l yX3_count wsX3_count ({ frames := 1, cells := 0, slots := 0, locals := 22 }) D (kTy cI cF cJ) [.ref mq, .int x, .int y] [(mq, .inr (3, [.int fa, .ref ak, .ref ad, .int st, .int en, .int cm, .int fi, .ref ah, .ref am, .ref ap, .ref ag, .ref au, .ref ax, .ref al, .ref ai, .int im, .ref an, .int nm, .ref ao, .int om]))] [(mq, .inr (3, [.int 1, .ref ak, .ref ad, .int st, .int en, .int cm, .int fi, .ref ah, .ref am, .ref ap, .ref ag, .ref au, .ref ax, .ref al, .ref ai, .int im, .ref an, .int nm, .ref ao, .int om]))] 0 := by
  refine kI_of (cc := cX3_count) (nL := 3) (ty := .int) (own := RX3) (lv := [(0, .ref mq), (1, .int x), (2, .int y)]) (by decide) rfl rfl (Nat.le_of_ble_eq_true rfl) rfl (rfl) ?_
  intro p e s m args below meth c A ls Q C hA hK hP hD hS hl hret
  obtain ⟨hx, hb, hr, hml, hown, hts, hlocks⟩ := C
  refine lv_aload_n hx hb dX3_count_0 rfl (lv_at hl 0 rfl) ?_
  refine lv_iload_n hx hb dX3_count_1 rfl (lv_at hl 1 rfl) ?_
  refine lv_iconst (v := 0) hx hb dX3_count_2 (by decide) ?_
  refine lv_iconst (v := 3) hx hb dX3_count_3 (by decide) ?_
  refine kCallS (As := [.int x, .int 0, .int 3]) ⟨hx, hb, hml, hown, hts⟩ (c_X3_isIn l D cI cF cJ x 0 3 ) (cwS 3 hts gX3_count_X3_isIn rfl rfl rfl (by decide +kernel) ⟨Nat.le_of_ble_eq_true rfl, Nat.le_of_ble_eq_true rfl⟩) hK hP hD hS hA rfl hl.1 (Nat.le_of_ble_eq_true rfl) ⟨Nat.zero_le _, Nat.zero_le _⟩ dX3_count_4 (fun H locs hP hD hS => ?_) rfl
  refine lv_if_eq (tgt := 23) hx hb dX3_count_7 (by decide) (fun c_1 => ?_) (fun c_1 => ?_)
  · refine lv_iconst (v := 1) hx hb dX3_count_23 (by decide) ?_
    refine kCallI (As := [.int 1]) (wc := [(mq, .inr (3, [.int fa, .ref ak, .ref ad, .int st, .int en, .int cm, .int fi, .ref ah, .ref am, .ref ap, .ref ag, .ref au, .ref ax, .ref al, .ref ai, .int im, .ref an, .int nm, .ref ao, .int om]))]) (wr := []) (ws' := [(mq, .inr (3, [.int 1, .ref ak, .ref ad, .int st, .int en, .int cm, .int fi, .ref ah, .ref am, .ref ap, .ref ag, .ref au, .ref ax, .ref al, .ref ai, .int im, .ref an, .int nm, .ref ao, .int om]))]) (ci := 3) (C := RX3) ⟨hx, hb, hml, hown, hts⟩ (c_X3_refused l D cI cF cJ mq ak ad ah am ap ag au ax al ai an ao fa st en cm fi im nm om 1 ) (cwV 1 hts gX3_count_X3_refused rfl rfl rfl (by decide +kernel) ⟨Nat.le_of_ble_eq_true rfl, Nat.le_of_ble_eq_true rfl⟩) hK hP hD hS hA [0] [] [0] rfl rfl rfl rfl (by decide) rfl rfl rfl rfl rfl hl.1 (Nat.le_of_ble_eq_true rfl) ⟨Nat.zero_le _, Nat.zero_le _⟩ dX3_count_24 (fun H locs hP hD hS => ?_) rfl
    refine lv_if_eq (tgt := 32) hx hb dX3_count_27 (by decide) (fun c_2 => ?_) (fun c_2 => ?_)
    · exact absurd c_2 (by decide)
    · refine lv_iconst (v := 0) hx hb dX3_count_30 (by decide) ?_
      exact hret _ _ _ _ _ dX3_count_31 (rfl) (hP) (hD) hS
  · refine lv_iload_n hx hb dX3_count_10 rfl (lv_at hl 2 rfl) ?_
    refine lv_iconst (v := 0) hx hb dX3_count_11 (by decide) ?_
    refine lv_iconst (v := 5) hx hb dX3_count_12 (by decide) ?_
    refine kCallS (As := [.int y, .int 0, .int 5]) ⟨hx, hb, hml, hown, hts⟩ (c_X3_isIn l D cI cF cJ y 0 5 ) (cwS 3 hts gX3_count_X3_isIn rfl rfl rfl (by decide +kernel) ⟨Nat.le_of_ble_eq_true rfl, Nat.le_of_ble_eq_true rfl⟩) hK hP hD hS hA rfl hl.1 (Nat.le_of_ble_eq_true rfl) ⟨Nat.zero_le _, Nat.zero_le _⟩ dX3_count_13 (fun H locs hP hD hS => ?_) rfl
    refine lv_if_eq (tgt := 23) hx hb dX3_count_16 (by decide) (fun c_3 => ?_) (fun c_3 => ?_)
    · refine lv_iconst (v := 1) hx hb dX3_count_23 (by decide) ?_
      refine kCallI (As := [.int 1]) (wc := [(mq, .inr (3, [.int fa, .ref ak, .ref ad, .int st, .int en, .int cm, .int fi, .ref ah, .ref am, .ref ap, .ref ag, .ref au, .ref ax, .ref al, .ref ai, .int im, .ref an, .int nm, .ref ao, .int om]))]) (wr := []) (ws' := [(mq, .inr (3, [.int 1, .ref ak, .ref ad, .int st, .int en, .int cm, .int fi, .ref ah, .ref am, .ref ap, .ref ag, .ref au, .ref ax, .ref al, .ref ai, .int im, .ref an, .int nm, .ref ao, .int om]))]) (ci := 3) (C := RX3) ⟨hx, hb, hml, hown, hts⟩ (c_X3_refused l D cI cF cJ mq ak ad ah am ap ag au ax al ai an ao fa st en cm fi im nm om 1 ) (cwV 1 hts gX3_count_X3_refused rfl rfl rfl (by decide +kernel) ⟨Nat.le_of_ble_eq_true rfl, Nat.le_of_ble_eq_true rfl⟩) hK hP hD hS hA [0] [] [0] rfl rfl rfl rfl (by decide) rfl rfl rfl rfl rfl hl.1 (Nat.le_of_ble_eq_true rfl) ⟨Nat.zero_le _, Nat.zero_le _⟩ dX3_count_24 (fun H locs hP hD hS => ?_) rfl
      refine lv_if_eq (tgt := 32) hx hb dX3_count_27 (by decide) (fun c_4 => ?_) (fun c_4 => ?_)
      · exact absurd c_4 (by decide)
      · refine lv_iconst (v := 0) hx hb dX3_count_30 (by decide) ?_
        exact hret _ _ _ _ _ dX3_count_31 (rfl) (hP) (hD) hS
    · obtain ⟨a1, a2⟩ := rIn_nz c_1
      obtain ⟨b1, b2⟩ := rIn_nz c_3
      rw [Int32.lt_iff_toInt_lt] at b1 b2
      have z0 : (0 : Int32).toInt = 0 := rfl
      have z5 : (5 : Int32).toInt = 5 := rfl
      rcases hbad with h9 | h9 | h9 | h9
      · exact absurd h9 a1
      · exact absurd (lt_of_nle 3 4 a2 rfl) h9
      · exact absurd h9 (by omega)
      · exact absurd h9 (by omega)

set_option maxHeartbeats 4000000 in
set_option maxRecDepth 100000 in
theorem mt_feed1 (l : Launch) (D : va_G) (cI cF cJ : ClassId) (mq ak ad ah am ap ag au ax al ai an ao : Nat) (fa st en cm fi im nm om : Int32) (x n1 n2 n3 n4 : Int32) (hbad : x < 0 ∨ ¬ x ≤ 16) : kI l yX3_feed wsX3_feed ({ frames := 1, cells := 0, slots := 0, locals := 22 }) D (kTy cI cF cJ) [.ref mq, .int x, .int n1, .int n2, .int n3, .int n4] [(mq, .inr (3, [.int fa, .ref ak, .ref ad, .int st, .int en, .int cm, .int fi, .ref ah, .ref am, .ref ap, .ref ag, .ref au, .ref ax, .ref al, .ref ai, .int im, .ref an, .int nm, .ref ao, .int om]))] [(mq, .inr (3, [.int 1, .ref ak, .ref ad, .int st, .int en, .int cm, .int fi, .ref ah, .ref am, .ref ap, .ref ag, .ref au, .ref ax, .ref al, .ref ai, .int im, .ref an, .int nm, .ref ao, .int om]))] 0 := by
  refine kI_of (cc := cX3_feed) (nL := 8) (ty := .int) (own := RX3) (lv := [(0, .ref mq), (1, .int x), (2, .int n1), (3, .int n2), (4, .int n3), (5, .int n4)]) (by decide) rfl rfl (Nat.le_of_ble_eq_true rfl) rfl (rfl) ?_
  intro p e s m args below meth c A ls Q C hA hK hP hD hS hl hret
  obtain ⟨hx, hb, hr, hml, hown, hts, hlocks⟩ := C
  refine lv_aload_n hx hb dX3_feed_0 rfl (lv_at hl 0 rfl) ?_
  refine lv_iload_n hx hb dX3_feed_1 rfl (lv_at hl 1 rfl) ?_
  refine lv_iconst (v := 0) hx hb dX3_feed_2 (by decide) ?_
  refine lv_bipush (v := 16) hx hb dX3_feed_3 (by decide) ?_
  refine kCallS (As := [.int x, .int 0, .int 16]) ⟨hx, hb, hml, hown, hts⟩ (c_X3_isIn l D cI cF cJ x 0 16 ) (cwS 3 hts gX3_feed_X3_isIn rfl rfl rfl (by decide +kernel) ⟨Nat.le_of_ble_eq_true rfl, Nat.le_of_ble_eq_true rfl⟩) hK hP hD hS hA rfl hl.1 (Nat.le_of_ble_eq_true rfl) ⟨Nat.zero_le _, Nat.zero_le _⟩ dX3_feed_5 (fun H locs hP hD hS => ?_) rfl
  refine lv_if_ne (tgt := 15) hx hb dX3_feed_8 (by decide) (fun c_1 => ?_) (fun c_1 => ?_)
  · obtain ⟨a1, a2⟩ := rIn_nz c_1
    rcases hbad with h9 | h9
    · exact absurd h9 a1
    · exact absurd (Int32.not_lt.mp a2) h9
  · refine lv_iconst (v := 1) hx hb dX3_feed_11 (by decide) ?_
    refine lv_goto (tgt := 39) hx hb dX3_feed_12 (by decide) ?_
    refine kCallI (As := [.int 1]) (wc := [(mq, .inr (3, [.int fa, .ref ak, .ref ad, .int st, .int en, .int cm, .int fi, .ref ah, .ref am, .ref ap, .ref ag, .ref au, .ref ax, .ref al, .ref ai, .int im, .ref an, .int nm, .ref ao, .int om]))]) (wr := []) (ws' := [(mq, .inr (3, [.int 1, .ref ak, .ref ad, .int st, .int en, .int cm, .int fi, .ref ah, .ref am, .ref ap, .ref ag, .ref au, .ref ax, .ref al, .ref ai, .int im, .ref an, .int nm, .ref ao, .int om]))]) (ci := 3) (C := RX3) ⟨hx, hb, hml, hown, hts⟩ (c_X3_refused l D cI cF cJ mq ak ad ah am ap ag au ax al ai an ao fa st en cm fi im nm om 1 ) (cwV 1 hts gX3_feed_X3_refused rfl rfl rfl (by decide +kernel) ⟨Nat.le_of_ble_eq_true rfl, Nat.le_of_ble_eq_true rfl⟩) hK hP hD hS hA [0] [] [0] rfl rfl rfl rfl (by decide) rfl rfl rfl rfl rfl hl.1 (Nat.le_of_ble_eq_true rfl) ⟨Nat.zero_le _, Nat.zero_le _⟩ dX3_feed_39 (fun H locs hP hD hS => ?_) rfl
    refine lv_if_eq (tgt := 47) hx hb dX3_feed_42 (by decide) (fun c_2 => ?_) (fun c_2 => ?_)
    · exact absurd c_2 (by decide)
    · refine lv_iconst (v := 0) hx hb dX3_feed_45 (by decide) ?_
      exact hret _ _ _ _ _ dX3_feed_46 (rfl) (hP) (hD) hS

set_option maxHeartbeats 4000000 in
set_option maxRecDepth 100000 in
theorem mt_feed2 (l : Launch) (D : va_G) (cI cF cJ : ClassId) (mq ak ad ah am ap ag au ax al ai an ao : Nat) (fa st en cm fi im nm om : Int32) (x n1 n2 n3 n4 : Int32) (h1 : ¬ x < 0) (h2 : x ≤ 16) (hbad : ¬ fi = 0 ∨ ¬ cm + x ≤ 2000) : kI l yX3_feed wsX3_feed ({ frames := 1, cells := 0, slots := 0, locals := 22 }) D (kTy cI cF cJ) [.ref mq, .int x, .int n1, .int n2, .int n3, .int n4] [(mq, .inr (3, [.int fa, .ref ak, .ref ad, .int st, .int en, .int cm, .int fi, .ref ah, .ref am, .ref ap, .ref ag, .ref au, .ref ax, .ref al, .ref ai, .int im, .ref an, .int nm, .ref ao, .int om]))] [(mq, .inr (3, [.int 2, .ref ak, .ref ad, .int st, .int en, .int cm, .int fi, .ref ah, .ref am, .ref ap, .ref ag, .ref au, .ref ax, .ref al, .ref ai, .int im, .ref an, .int nm, .ref ao, .int om]))] 0 := by
  refine kI_of (cc := cX3_feed) (nL := 8) (ty := .int) (own := RX3) (lv := [(0, .ref mq), (1, .int x), (2, .int n1), (3, .int n2), (4, .int n3), (5, .int n4)]) (by decide) rfl rfl (Nat.le_of_ble_eq_true rfl) rfl (rfl) ?_
  intro p e s m args below meth c A ls Q C hA hK hP hD hS hl hret
  obtain ⟨hx, hb, hr, hml, hown, hts, hlocks⟩ := C
  have k_57 := hts (.fieldLink RX3 57 "BranchFiltersModel" "came" "I") (by decide +kernel)
  have k_60 := hts (.fieldLink RX3 60 "BranchFiltersModel" "isFinished" "Z") (by decide +kernel)
  have inX3 : ∀ w ∈ wsX30, w ∈ wsX3_feed := by decide +kernel
  refine lv_aload_n hx hb dX3_feed_0 rfl (lv_at hl 0 rfl) ?_
  refine lv_iload_n hx hb dX3_feed_1 rfl (lv_at hl 1 rfl) ?_
  refine lv_iconst (v := 0) hx hb dX3_feed_2 (by decide) ?_
  refine lv_bipush (v := 16) hx hb dX3_feed_3 (by decide) ?_
  refine kCallS (As := [.int x, .int 0, .int 16]) ⟨hx, hb, hml, hown, hts⟩ (c_X3_isIn l D cI cF cJ x 0 16 ) (cwS 3 hts gX3_feed_X3_isIn rfl rfl rfl (by decide +kernel) ⟨Nat.le_of_ble_eq_true rfl, Nat.le_of_ble_eq_true rfl⟩) hK hP hD hS hA rfl hl.1 (Nat.le_of_ble_eq_true rfl) ⟨Nat.zero_le _, Nat.zero_le _⟩ dX3_feed_5 (fun H locs hP hD hS => ?_) rfl
  refine lv_if_ne (tgt := 15) hx hb dX3_feed_8 (by decide) (fun c_1 => ?_) (fun c_1 => ?_)
  · refine lv_aload_n hx hb dX3_feed_15 rfl (lv_at hl 0 rfl) ?_
    refine va_get (D := D) (ci := 3) (v := .int cm) (C := RX3) (T := TX3) (N := 20) hx hb hts inX3 hown hK hP 0 rfl rfl 5 (by decide) k_57 (fun _ h9 => h9) rfl dX3_feed_16 ?_
    refine lv_iload_n hx hb dX3_feed_19 rfl (lv_at hl 1 rfl) ?_
    refine lv_iadd hx hb dX3_feed_20 ?_
    refine lv_sipush (v := 2000) hx hb dX3_feed_21 (by decide) ?_
    refine lv_icmp_gt (tgt := 34) hx hb dX3_feed_24 (by decide) (fun c_2 => ?_) (fun c_2 => ?_)
    · refine lv_iconst (v := 2) hx hb dX3_feed_34 (by decide) ?_
      refine lv_goto (tgt := 39) hx hb dX3_feed_35 (by decide) ?_
      refine kCallI (As := [.int 2]) (wc := [(mq, .inr (3, [.int fa, .ref ak, .ref ad, .int st, .int en, .int cm, .int fi, .ref ah, .ref am, .ref ap, .ref ag, .ref au, .ref ax, .ref al, .ref ai, .int im, .ref an, .int nm, .ref ao, .int om]))]) (wr := []) (ws' := [(mq, .inr (3, [.int 2, .ref ak, .ref ad, .int st, .int en, .int cm, .int fi, .ref ah, .ref am, .ref ap, .ref ag, .ref au, .ref ax, .ref al, .ref ai, .int im, .ref an, .int nm, .ref ao, .int om]))]) (ci := 3) (C := RX3) ⟨hx, hb, hml, hown, hts⟩ (c_X3_refused l D cI cF cJ mq ak ad ah am ap ag au ax al ai an ao fa st en cm fi im nm om 2 ) (cwV 1 hts gX3_feed_X3_refused rfl rfl rfl (by decide +kernel) ⟨Nat.le_of_ble_eq_true rfl, Nat.le_of_ble_eq_true rfl⟩) hK hP hD hS hA [0] [] [0] rfl rfl rfl rfl (by decide) rfl rfl rfl rfl rfl hl.1 (Nat.le_of_ble_eq_true rfl) ⟨Nat.zero_le _, Nat.zero_le _⟩ dX3_feed_39 (fun H locs hP hD hS => ?_) rfl
      refine lv_if_eq (tgt := 47) hx hb dX3_feed_42 (by decide) (fun c_3 => ?_) (fun c_3 => ?_)
      · exact absurd c_3 (by decide)
      · refine lv_iconst (v := 0) hx hb dX3_feed_45 (by decide) ?_
        exact hret _ _ _ _ _ dX3_feed_46 (rfl) (hP) (hD) hS
    · refine lv_aload_n hx hb dX3_feed_27 rfl (lv_at hl 0 rfl) ?_
      refine va_get (D := D) (ci := 3) (v := .int fi) (C := RX3) (T := TX3) (N := 20) hx hb hts inX3 hown hK hP 0 rfl rfl 6 (by decide) k_60 (fun _ h9 => h9) rfl dX3_feed_28 ?_
      refine lv_if_eq (tgt := 38) hx hb dX3_feed_31 (by decide) (fun c_4 => ?_) (fun c_4 => ?_)
      · rcases hbad with h9 | h9
        · exact absurd c_4 h9
        · exact absurd (Int32.not_lt.mp c_2) h9
      · refine lv_iconst (v := 2) hx hb dX3_feed_34 (by decide) ?_
        refine lv_goto (tgt := 39) hx hb dX3_feed_35 (by decide) ?_
        refine kCallI (As := [.int 2]) (wc := [(mq, .inr (3, [.int fa, .ref ak, .ref ad, .int st, .int en, .int cm, .int fi, .ref ah, .ref am, .ref ap, .ref ag, .ref au, .ref ax, .ref al, .ref ai, .int im, .ref an, .int nm, .ref ao, .int om]))]) (wr := []) (ws' := [(mq, .inr (3, [.int 2, .ref ak, .ref ad, .int st, .int en, .int cm, .int fi, .ref ah, .ref am, .ref ap, .ref ag, .ref au, .ref ax, .ref al, .ref ai, .int im, .ref an, .int nm, .ref ao, .int om]))]) (ci := 3) (C := RX3) ⟨hx, hb, hml, hown, hts⟩ (c_X3_refused l D cI cF cJ mq ak ad ah am ap ag au ax al ai an ao fa st en cm fi im nm om 2 ) (cwV 1 hts gX3_feed_X3_refused rfl rfl rfl (by decide +kernel) ⟨Nat.le_of_ble_eq_true rfl, Nat.le_of_ble_eq_true rfl⟩) hK hP hD hS hA [0] [] [0] rfl rfl rfl rfl (by decide) rfl rfl rfl rfl rfl hl.1 (Nat.le_of_ble_eq_true rfl) ⟨Nat.zero_le _, Nat.zero_le _⟩ dX3_feed_39 (fun H locs hP hD hS => ?_) rfl
        refine lv_if_eq (tgt := 47) hx hb dX3_feed_42 (by decide) (fun c_5 => ?_) (fun c_5 => ?_)
        · exact absurd c_5 (by decide)
        · refine lv_iconst (v := 0) hx hb dX3_feed_45 (by decide) ?_
          exact hret _ _ _ _ _ dX3_feed_46 (rfl) (hP) (hD) hS
  · exact absurd ((if_neg h1).trans (if_neg (Int32.not_lt.mpr h2))) (by unfold rIn at c_1; rw [c_1]; decide)

set_option maxHeartbeats 4000000 in
set_option maxRecDepth 100000 in
theorem mt_finish (l : Launch) (D : va_G) (cI cF cJ : ClassId) (mq ak ad ah am ap ag au ax al ai an ao : Nat) (fa st en cm fi im nm om : Int32) (hbad : ¬ fi = 0) : kI l yX3_finish wsX3_finish ({ frames := 1, cells := 0, slots := 0, locals := 21 }) D (kTy cI cF cJ) [.ref mq] [(mq, .inr (3, [.int fa, .ref ak, .ref ad, .int st, .int en, .int cm, .int fi, .ref ah, .ref am, .ref ap, .ref ag, .ref au, .ref ax, .ref al, .ref ai, .int im, .ref an, .int nm, .ref ao, .int om]))] [(mq, .inr (3, [.int 1, .ref ak, .ref ad, .int st, .int en, .int cm, .int fi, .ref ah, .ref am, .ref ap, .ref ag, .ref au, .ref ax, .ref al, .ref ai, .int im, .ref an, .int nm, .ref ao, .int om]))] 0 := by
  refine kI_of (cc := cX3_finish) (nL := 1) (ty := .int) (own := RX3) (lv := [(0, .ref mq)]) (by decide) rfl rfl (Nat.le_of_ble_eq_true rfl) rfl (rfl) ?_
  intro p e s m args below meth c A ls Q C hA hK hP hD hS hl hret
  obtain ⟨hx, hb, hr, hml, hown, hts, hlocks⟩ := C
  have k_60 := hts (.fieldLink RX3 60 "BranchFiltersModel" "isFinished" "Z") (by decide +kernel)
  have inX3 : ∀ w ∈ wsX30, w ∈ wsX3_finish := by decide +kernel
  refine lv_aload_n hx hb dX3_finish_0 rfl (lv_at hl 0 rfl) ?_
  refine lv_aload_n hx hb dX3_finish_1 rfl (lv_at hl 0 rfl) ?_
  refine va_get (D := D) (ci := 3) (v := .int fi) (C := RX3) (T := TX3) (N := 20) hx hb hts inX3 hown hK hP 0 rfl rfl 6 (by decide) k_60 (fun _ h9 => h9) rfl dX3_finish_2 ?_
  refine lv_if_eq (tgt := 12) hx hb dX3_finish_5 (by decide) (fun c_1 => ?_) (fun c_1 => ?_)
  · exact absurd c_1 hbad
  · refine lv_iconst (v := 1) hx hb dX3_finish_8 (by decide) ?_
    refine lv_goto (tgt := 13) hx hb dX3_finish_9 (by decide) ?_
    refine kCallI (As := [.int 1]) (wc := [(mq, .inr (3, [.int fa, .ref ak, .ref ad, .int st, .int en, .int cm, .int fi, .ref ah, .ref am, .ref ap, .ref ag, .ref au, .ref ax, .ref al, .ref ai, .int im, .ref an, .int nm, .ref ao, .int om]))]) (wr := []) (ws' := [(mq, .inr (3, [.int 1, .ref ak, .ref ad, .int st, .int en, .int cm, .int fi, .ref ah, .ref am, .ref ap, .ref ag, .ref au, .ref ax, .ref al, .ref ai, .int im, .ref an, .int nm, .ref ao, .int om]))]) (ci := 3) (C := RX3) ⟨hx, hb, hml, hown, hts⟩ (c_X3_refused l D cI cF cJ mq ak ad ah am ap ag au ax al ai an ao fa st en cm fi im nm om 1 ) (cwV 1 hts gX3_finish_X3_refused rfl rfl rfl (by decide +kernel) ⟨Nat.le_of_ble_eq_true rfl, Nat.le_of_ble_eq_true rfl⟩) hK hP hD hS hA [0] [] [0] rfl rfl rfl rfl (by decide) rfl rfl rfl rfl rfl hl.1 (Nat.le_of_ble_eq_true rfl) ⟨Nat.zero_le _, Nat.zero_le _⟩ dX3_finish_13 (fun H locs hP hD hS => ?_) rfl
    refine lv_if_eq (tgt := 21) hx hb dX3_finish_16 (by decide) (fun c_2 => ?_) (fun c_2 => ?_)
    · exact absurd c_2 (by decide)
    · refine lv_iconst (v := 0) hx hb dX3_finish_19 (by decide) ?_
      exact hret _ _ _ _ _ dX3_finish_20 (rfl) (hP) (hD) hS
