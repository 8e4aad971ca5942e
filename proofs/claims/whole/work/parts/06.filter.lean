/-! BranchFilters$Filter: delta, X86, step, restart, giveRest -/

def cDelta (en : Int32) (pl : Int32) (ds : Int32) (h : Nat) (g : Nat → Int32) (pf : Nat → Int32) : Int32 × (Nat → Int32) × (Nat → Int32) := (if en = 0 then (1, (upd g h ((cMd en (g h) (-(pf (b5 (pl - ds))))) &&& 255)), (upd pf (b5 pl) ((upd g h ((cMd en (g h) (-(pf (b5 (pl - ds))))) &&& 255)) h))) else (1, upd g h ((cMd en (g h) (-(pf (b5 (pl - ds))))) &&& 255), (upd pf (b5 pl) (g h))))

set_option maxHeartbeats 4000000 in
set_option maxRecDepth 100000 in
/-- Filter.stepDelta() -/
theorem c_X0_stepDelta (l : Launch) (D : va_G) (cI cF cJ : ClassId) (q ro pa rb h : Nat) (kd ds en pl gv rp mk la sz : Int32) (g : Nat → Int32) (pf : Nat → Int32) (hk : h < 64) : kI l yX0_stepDelta wsX0_stepDelta ({ frames := 1, cells := 0, slots := 0, locals := 22 }) D (kTy cI cF cJ) [.ref q] [(q, .inr (0, [.ref ro, .ref pa, .int kd, .int ds, .int en, .int pl, .int (nI h), .int gv, .int rp, .int mk, .int la])), (ro, .inr (1, [.ref rb, .int sz])), (rb, .inl (cI, 64, .inl g)), (pa, .inl (cI, 32, .inl pf))] [(q, .inr (0, [.ref ro, .ref pa, .int kd, .int ds, .int en, .int pl, .int (nI h), .int gv, .int rp, .int mk, .int la])), (ro, .inr (1, [.ref rb, .int sz])), (rb, .inl (cI, 64, .inl ((cDelta en pl ds h g pf).2.1))), (pa, .inl (cI, 32, .inl ((cDelta en pl ds h g pf).2.2)))] ((cDelta en pl ds h g pf).1) := by
  refine kI_of (cc := cX0_stepDelta) (nL := 4) (ty := .int) (own := RX0) (lv := [(0, .ref q)]) (by decide) rfl rfl (Nat.le_of_ble_eq_true rfl) rfl (rfl) ?_
  intro p e s m args below meth c A ls Q C hA hK hP hD hS hl hret
  obtain ⟨hx, hb, hr, hml, hown, hts, hlocks⟩ := C
  have k_14 := hts (.fieldLink RX0 14 "BranchFilters$Filter" "held" "LBranchFilters$Row;") (by decide +kernel)
  have k_20 := hts (.fieldLink RX0 20 "BranchFilters$Filter" "past" "[I") (by decide +kernel)
  have k_24 := hts (.fieldLink RX0 24 "BranchFilters$Filter" "distance" "I") (by decide +kernel)
  have k_38 := hts (.fieldLink RX0 38 "BranchFilters$Filter" "encoding" "Z") (by decide +kernel)
  have k_42 := hts (.fieldLink RX0 42 "BranchFilters$Filter" "place" "I") (by decide +kernel)
  have k_65 := hts (.fieldLink RX0 65 "BranchFilters$Filter" "here" "I") (by decide +kernel)
  have inX0 : ∀ w ∈ wsX00, w ∈ wsX0_stepDelta := by decide +kernel
  refine lv_aload_n hx hb dX0_stepDelta_0 rfl (lv_at hl 0 rfl) ?_
  refine va_get (D := D) (ci := 0) (v := .int pl) (C := RX0) (T := TX0) (N := 11) hx hb hts inX0 hown hK hP 0 rfl rfl 5 (by decide) k_42 (fun _ h9 => h9) rfl dX0_stepDelta_1 ?_
  refine lv_bipush (v := 31) hx hb dX0_stepDelta_4 (by decide) ?_
  refine lv_iand hx hb dX0_stepDelta_6 ?_
  refine kTop (y := nI (b5 pl)) (b5_and _) ?_
  refine lv_istore_n (lv' := [(1, .int (nI (b5 pl))), (0, .ref q)]) hx hb dX0_stepDelta_7 rfl hl (by decide) rfl (fun ls hl => ?_)
  refine lv_aload_n hx hb dX0_stepDelta_8 rfl (lv_at hl 1 rfl) ?_
  refine va_get (D := D) (ci := 0) (v := .ref pa) (C := RX0) (T := TX0) (N := 11) hx hb hts inX0 hown hK hP 0 rfl rfl 1 (by decide) k_20 (fun _ h9 => h9) rfl dX0_stepDelta_9 ?_
  refine lv_aload_n hx hb dX0_stepDelta_12 rfl (lv_at hl 1 rfl) ?_
  refine va_get (D := D) (ci := 0) (v := .int pl) (C := RX0) (T := TX0) (N := 11) hx hb hts inX0 hown hK hP 0 rfl rfl 5 (by decide) k_42 (fun _ h9 => h9) rfl dX0_stepDelta_13 ?_
  refine lv_aload_n hx hb dX0_stepDelta_16 rfl (lv_at hl 1 rfl) ?_
  refine va_get (D := D) (ci := 0) (v := .int ds) (C := RX0) (T := TX0) (N := 11) hx hb hts inX0 hown hK hP 0 rfl rfl 3 (by decide) k_24 (fun _ h9 => h9) rfl dX0_stepDelta_17 ?_
  refine lv_isub hx hb dX0_stepDelta_20 ?_
  refine lv_bipush (v := 31) hx hb dX0_stepDelta_21 (by decide) ?_
  refine lv_iand hx hb dX0_stepDelta_23 ?_
  refine kTop (y := nI (b5 (pl - ds))) (b5_and _) ?_
  refine kIald (k := (b5 (pl - ds))) hx hb hK hP 3 0 rfl rfl (rfl) (b5_lt _) (by omega) dX0_stepDelta_24 ?_
  refine lv_topi (fun x_1 e_1 => ?_)
  refine lv_istore_n (lv' := [(2, .int x_1), (1, .int (nI (b5 pl))), (0, .ref q)]) hx hb dX0_stepDelta_25 rfl hl (by decide) rfl (fun ls hl => ?_)
  refine lv_aload_n hx hb dX0_stepDelta_26 rfl (lv_at hl 2 rfl) ?_
  refine va_get (D := D) (ci := 0) (v := .ref ro) (C := RX0) (T := TX0) (N := 11) hx hb hts inX0 hown hK hP 0 rfl rfl 0 (by decide) k_14 (fun _ h9 => h9) rfl dX0_stepDelta_27 ?_
  refine lv_aload_n hx hb dX0_stepDelta_30 rfl (lv_at hl 2 rfl) ?_
  refine va_get (D := D) (ci := 0) (v := .int (nI h)) (C := RX0) (T := TX0) (N := 11) hx hb hts inX0 hown hK hP 0 rfl rfl 6 (by decide) k_65 (fun _ h9 => h9) rfl dX0_stepDelta_31 ?_
  refine kCallI (As := [.int (nI h)]) (wc := [(ro, .inr (1, [.ref rb, .int sz])), (rb, .inl (cI, 64, .inl g))]) (wr := [(q, .inr (0, [.ref ro, .ref pa, .int kd, .int ds, .int en, .int pl, .int (nI h), .int gv, .int rp, .int mk, .int la])), (pa, .inl (cI, 32, .inl pf))]) (ws' := [(q, .inr (0, [.ref ro, .ref pa, .int kd, .int ds, .int en, .int pl, .int (nI h), .int gv, .int rp, .int mk, .int la])), (ro, .inr (1, [.ref rb, .int sz])), (rb, .inl (cI, 64, .inl g)), (pa, .inl (cI, 32, .inl pf))]) (ci := 1) (C := RX1) ⟨hx, hb, hml, hown, hts⟩ (c_X1_at l D cI cF cJ ro rb 64 h g sz (by omega) (by omega)) (cwV 1 hts gX0_stepDelta_X1_at rfl rfl rfl (by decide +kernel) ⟨Nat.le_of_ble_eq_true rfl, Nat.le_of_ble_eq_true rfl⟩) hK hP hD hS hA [1, 2] [0, 3] [0, 2, 3, 1] rfl rfl rfl rfl (by decide) rfl rfl rfl rfl rfl hl.1 (Nat.le_of_ble_eq_true rfl) ⟨Nat.zero_le _, Nat.zero_le _⟩ dX0_stepDelta_34 (fun H locs hP hD hS => ?_) rfl
  refine lv_topi (fun x_2 e_2 => ?_)
  refine lv_istore_n (lv' := [(3, .int x_2), (2, .int x_1), (1, .int (nI (b5 pl))), (0, .ref q)]) hx hb dX0_stepDelta_37 rfl hl (by decide) rfl (fun ls hl => ?_)
  refine lv_aload_n hx hb dX0_stepDelta_38 rfl (lv_at hl 3 rfl) ?_
  refine va_get (D := D) (ci := 0) (v := .ref ro) (C := RX0) (T := TX0) (N := 11) hx hb hts inX0 hown hK hP 0 rfl rfl 0 (by decide) k_14 (fun _ h9 => h9) rfl dX0_stepDelta_39 ?_
  refine lv_aload_n hx hb dX0_stepDelta_42 rfl (lv_at hl 3 rfl) ?_
  refine va_get (D := D) (ci := 0) (v := .int (nI h)) (C := RX0) (T := TX0) (N := 11) hx hb hts inX0 hown hK hP 0 rfl rfl 6 (by decide) k_65 (fun _ h9 => h9) rfl dX0_stepDelta_43 ?_
  refine lv_aload_n hx hb dX0_stepDelta_46 rfl (lv_at hl 3 rfl) ?_
  refine lv_iload_n hx hb dX0_stepDelta_47 rfl (lv_at hl 0 rfl) ?_
  refine lv_iload_n hx hb dX0_stepDelta_48 rfl (lv_at hl 1 rfl) ?_
  refine lv_ineg hx hb dX0_stepDelta_49 ?_
  refine kCallI (As := [.int x_2, .int (-x_1)]) (wc := [(q, .inr (0, [.ref ro, .ref pa, .int kd, .int ds, .int en, .int pl, .int (nI h), .int gv, .int rp, .int mk, .int la]))]) (wr := [(ro, .inr (1, [.ref rb, .int sz])), (rb, .inl (cI, 64, .inl g)), (pa, .inl (cI, 32, .inl pf))]) (ws' := [(q, .inr (0, [.ref ro, .ref pa, .int kd, .int ds, .int en, .int pl, .int (nI h), .int gv, .int rp, .int mk, .int la])), (ro, .inr (1, [.ref rb, .int sz])), (rb, .inl (cI, 64, .inl g)), (pa, .inl (cI, 32, .inl pf))]) (ci := 0) (C := RX0) ⟨hx, hb, hml, hown, hts⟩ (c_X0_moved l D cI cF cJ q ro pa kd ds en pl (nI h) gv rp mk la x_2 (-x_1) ) (cwV 2 hts gX0_stepDelta_X0_moved rfl rfl rfl (by decide +kernel) ⟨Nat.le_of_ble_eq_true rfl, Nat.le_of_ble_eq_true rfl⟩) hK hP hD hS hA [0] [1, 2, 3] [3, 0, 1, 2] rfl rfl rfl rfl (by decide) rfl rfl rfl rfl rfl hl.1 (Nat.le_of_ble_eq_true rfl) ⟨Nat.zero_le _, Nat.zero_le _⟩ dX0_stepDelta_50 (fun H locs hP hD hS => ?_) rfl
  refine kCallV (As := [.int (nI h), .int (cMd en x_2 (-x_1))]) (wc := [(ro, .inr (1, [.ref rb, .int sz])), (rb, .inl (cI, 64, .inl g))]) (wr := [(q, .inr (0, [.ref ro, .ref pa, .int kd, .int ds, .int en, .int pl, .int (nI h), .int gv, .int rp, .int mk, .int la])), (pa, .inl (cI, 32, .inl pf))]) (ws' := [(q, .inr (0, [.ref ro, .ref pa, .int kd, .int ds, .int en, .int pl, .int (nI h), .int gv, .int rp, .int mk, .int la])), (ro, .inr (1, [.ref rb, .int sz])), (rb, .inl (cI, 64, .inl (upd g h ((cMd en x_2 (-x_1)) &&& 255)))), (pa, .inl (cI, 32, .inl pf))]) (ci := 1) (C := RX1) ⟨hx, hb, hml, hown, hts⟩ (c_X1_set l D cI cF cJ ro rb 64 h g sz (cMd en x_2 (-x_1)) (by omega) (by omega)) (cwV 2 hts gX0_stepDelta_X1_set rfl rfl rfl (by decide +kernel) ⟨Nat.le_of_ble_eq_true rfl, Nat.le_of_ble_eq_true rfl⟩) hK hP hD hS hA [1, 2] [0, 3] [0, 2, 3, 1] rfl rfl rfl rfl (by decide) rfl rfl rfl rfl rfl hl.1 (Nat.le_of_ble_eq_true rfl) ⟨Nat.zero_le _, Nat.zero_le _⟩ dX0_stepDelta_53 (fun H locs hP hD hS => ?_) rfl
  refine lv_aload_n hx hb dX0_stepDelta_56 rfl (lv_at hl 3 rfl) ?_
  refine va_get (D := D) (ci := 0) (v := .ref pa) (C := RX0) (T := TX0) (N := 11) hx hb hts inX0 hown hK hP 0 rfl rfl 1 (by decide) k_20 (fun _ h9 => h9) rfl dX0_stepDelta_57 ?_
  refine lv_iload_n hx hb dX0_stepDelta_60 rfl (lv_at hl 2 rfl) ?_
  refine lv_aload_n hx hb dX0_stepDelta_61 rfl (lv_at hl 3 rfl) ?_
  refine va_get (D := D) (ci := 0) (v := .int en) (C := RX0) (T := TX0) (N := 11) hx hb hts inX0 hown hK hP 0 rfl rfl 4 (by decide) k_38 (fun _ h9 => h9) rfl dX0_stepDelta_62 ?_
  refine lv_if_eq (tgt := 72) hx hb dX0_stepDelta_65 (by decide) (fun c_3 => ?_) (fun c_3 => ?_)
  · refine lv_aload_n hx hb dX0_stepDelta_72 rfl (lv_at hl 3 rfl) ?_
    refine va_get (D := D) (ci := 0) (v := .ref ro) (C := RX0) (T := TX0) (N := 11) hx hb hts inX0 hown hK hP 0 rfl rfl 0 (by decide) k_14 (fun _ h9 => h9) rfl dX0_stepDelta_73 ?_
    refine lv_aload_n hx hb dX0_stepDelta_76 rfl (lv_at hl 3 rfl) ?_
    refine va_get (D := D) (ci := 0) (v := .int (nI h)) (C := RX0) (T := TX0) (N := 11) hx hb hts inX0 hown hK hP 0 rfl rfl 6 (by decide) k_65 (fun _ h9 => h9) rfl dX0_stepDelta_77 ?_
    refine kCallI (As := [.int (nI h)]) (wc := [(ro, .inr (1, [.ref rb, .int sz])), (rb, .inl (cI, 64, .inl (upd g h ((cMd en x_2 (-x_1)) &&& 255))))]) (wr := [(q, .inr (0, [.ref ro, .ref pa, .int kd, .int ds, .int en, .int pl, .int (nI h), .int gv, .int rp, .int mk, .int la])), (pa, .inl (cI, 32, .inl pf))]) (ws' := [(q, .inr (0, [.ref ro, .ref pa, .int kd, .int ds, .int en, .int pl, .int (nI h), .int gv, .int rp, .int mk, .int la])), (ro, .inr (1, [.ref rb, .int sz])), (rb, .inl (cI, 64, .inl (upd g h ((cMd en x_2 (-x_1)) &&& 255)))), (pa, .inl (cI, 32, .inl pf))]) (ci := 1) (C := RX1) ⟨hx, hb, hml, hown, hts⟩ (c_X1_at l D cI cF cJ ro rb 64 h (upd g h ((cMd en x_2 (-x_1)) &&& 255)) sz (by omega) (by omega)) (cwV 1 hts gX0_stepDelta_X1_at rfl rfl rfl (by decide +kernel) ⟨Nat.le_of_ble_eq_true rfl, Nat.le_of_ble_eq_true rfl⟩) hK hP hD hS hA [1, 2] [0, 3] [0, 2, 3, 1] rfl rfl rfl rfl (by decide) rfl rfl rfl rfl rfl hl.1 (Nat.le_of_ble_eq_true rfl) ⟨Nat.zero_le _, Nat.zero_le _⟩ dX0_stepDelta_80 (fun H locs hP hD hS => ?_) rfl
    refine kIast (k := (b5 pl)) (ws' := [(q, .inr (0, [.ref ro, .ref pa, .int kd, .int ds, .int en, .int pl, .int (nI h), .int gv, .int rp, .int mk, .int la])), (ro, .inr (1, [.ref rb, .int sz])), (rb, .inl (cI, 64, .inl (upd g h ((cMd en x_2 (-x_1)) &&& 255)))), (pa, .inl (cI, 32, .inl (upd pf (b5 pl) ((upd g h ((cMd en x_2 (-x_1)) &&& 255)) h))))]) hx hb hK hP hD hS 3 0 rfl rfl (rfl) (b5_lt _) (by omega) rfl dX0_stepDelta_83 (fun H locs hP hD hS => ?_)
    refine lv_iconst (v := 1) hx hb dX0_stepDelta_84 (by decide) ?_
    subst e_2
    subst e_1
    have e9 : cDelta en pl ds h g pf = (1, (upd g h ((cMd en (g h) (-(pf (b5 (pl - ds))))) &&& 255)), (upd pf (b5 pl) ((upd g h ((cMd en (g h) (-(pf (b5 (pl - ds))))) &&& 255)) h))) := if_pos c_3
    exact hret _ _ _ _ _ dX0_stepDelta_85 (by rw [e9]) (by rw [e9]; exact hP) (by rw [e9]; exact hD) hS
  · refine lv_iload_n hx hb dX0_stepDelta_68 rfl (lv_at hl 0 rfl) ?_
    refine lv_goto (tgt := 83) hx hb dX0_stepDelta_69 (by decide) ?_
    refine kIast (k := (b5 pl)) (ws' := [(q, .inr (0, [.ref ro, .ref pa, .int kd, .int ds, .int en, .int pl, .int (nI h), .int gv, .int rp, .int mk, .int la])), (ro, .inr (1, [.ref rb, .int sz])), (rb, .inl (cI, 64, .inl (upd g h ((cMd en x_2 (-x_1)) &&& 255)))), (pa, .inl (cI, 32, .inl (upd pf (b5 pl) x_2)))]) hx hb hK hP hD hS 3 0 rfl rfl (rfl) (b5_lt _) (by omega) rfl dX0_stepDelta_83 (fun H locs hP hD hS => ?_)
    refine lv_iconst (v := 1) hx hb dX0_stepDelta_84 (by decide) ?_
    subst e_2
    subst e_1
    have e9 : cDelta en pl ds h g pf = (1, upd g h ((cMd en (g h) (-(pf (b5 (pl - ds))))) &&& 255), (upd pf (b5 pl) (g h))) := if_neg c_3
    exact hret _ _ _ _ _ dX0_stepDelta_85 (by rw [e9]) (by rw [e9]; exact hP) (by rw [e9]; exact hD) hS

/-- the mask, some places on -/
def cAgeN (mk : Int32) : Nat → Int32
  | 0 => mk
  | n + 1 => ((cAgeN mk n) &&& 119) * 2
def cAge (mk d : Int32) : Int32 := if d < 0 then 0 else if d ≤ 5 then cAgeN mk d.toNatClampNeg else 0

set_option maxHeartbeats 4000000 in
set_option maxRecDepth 100000 in
/-- Filter.ageMask() -/
theorem c_X0_ageMask (l : Launch) (D : va_G) (cI cF cJ : ClassId) (q ro pa : Nat) (kd ds en pl he gv rp mk la : Int32)  : kV l yX0_ageMask wsX0_ageMask ({ frames := 0, cells := 0, slots := 0, locals := 0 }) D (kTy cI cF cJ) [.ref q] [(q, .inr (0, [.ref ro, .ref pa, .int kd, .int ds, .int en, .int pl, .int he, .int gv, .int rp, .int mk, .int la]))] [(q, .inr (0, [.ref ro, .ref pa, .int kd, .int ds, .int en, .int pl, .int he, .int gv, .int rp, .int (cAge mk (pl - la)), .int pl]))] := by
  refine kV_of (cc := cX0_ageMask) (nL := 3) (own := RX0) (lv := [(0, .ref q)]) (by decide) rfl rfl (Nat.le_of_ble_eq_true rfl) rfl ?_
  intro p e s m args below meth c A ls Q C hA hK hP hD hS hl hret
  obtain ⟨hx, hb, hr, hml, hown, hts, hlocks⟩ := C
  have k_42 := hts (.fieldLink RX0 42 "BranchFilters$Filter" "place" "I") (by decide +kernel)
  have k_51 := hts (.fieldLink RX0 51 "BranchFilters$Filter" "mask" "I") (by decide +kernel)
  have k_54 := hts (.fieldLink RX0 54 "BranchFilters$Filter" "last" "I") (by decide +kernel)
  have inX0 : ∀ w ∈ wsX00, w ∈ wsX0_ageMask := by decide +kernel
  refine lv_aload_n hx hb dX0_ageMask_0 rfl (lv_at hl 0 rfl) ?_
  refine va_get (D := D) (ci := 0) (v := .int pl) (C := RX0) (T := TX0) (N := 11) hx hb hts inX0 hown hK hP 0 rfl rfl 5 (by decide) k_42 (fun _ h9 => h9) rfl dX0_ageMask_1 ?_
  refine lv_aload_n hx hb dX0_ageMask_4 rfl (lv_at hl 0 rfl) ?_
  refine va_get (D := D) (ci := 0) (v := .int la) (C := RX0) (T := TX0) (N := 11) hx hb hts inX0 hown hK hP 0 rfl rfl 10 (by decide) k_54 (fun _ h9 => h9) rfl dX0_ageMask_5 ?_
  refine lv_isub hx hb dX0_ageMask_8 ?_
  refine lv_topi (fun x_1 e_1 => ?_)
  refine lv_istore_n (lv' := [(1, .int x_1), (0, .ref q)]) hx hb dX0_ageMask_9 rfl hl (by decide) rfl (fun ls hl => ?_)
  refine lv_aload_n hx hb dX0_ageMask_10 rfl (lv_at hl 1 rfl) ?_
  refine lv_aload_n hx hb dX0_ageMask_11 rfl (lv_at hl 1 rfl) ?_
  refine va_get (D := D) (ci := 0) (v := .int pl) (C := RX0) (T := TX0) (N := 11) hx hb hts inX0 hown hK hP 0 rfl rfl 5 (by decide) k_42 (fun _ h9 => h9) rfl dX0_ageMask_12 ?_
  refine kPut (D := D) (ci := 0) (v := .int pl) (ty := .int) (C := RX0) (T := TX0) (N := 11) (ws' := [(q, .inr (0, [.ref ro, .ref pa, .int kd, .int ds, .int en, .int pl, .int he, .int gv, .int rp, .int mk, .int pl]))]) hx hb hts inX0 tyX0 tyX0_ok nmX0 hown hK hP hD hS 0 rfl rfl 10 (by decide) k_54 rfl (by decide +kernel) (rfl) (by first | rfl | decide) (Nat.le_of_ble_eq_true rfl) rfl dX0_ageMask_15 (fun H locs hP hD hS => ?_)
  refine lv_iload_n hx hb dX0_ageMask_18 rfl (lv_at hl 0 rfl) ?_
  refine lv_if_lt (tgt := 27) hx hb dX0_ageMask_19 (by decide) (fun c_2 => ?_) (fun c_2 => ?_)
  · refine lv_aload_n hx hb dX0_ageMask_27 rfl (lv_at hl 1 rfl) ?_
    refine lv_iconst (v := 0) hx hb dX0_ageMask_28 (by decide) ?_
    refine kPut (D := D) (ci := 0) (v := .int 0) (ty := .int) (C := RX0) (T := TX0) (N := 11) (ws' := [(q, .inr (0, [.ref ro, .ref pa, .int kd, .int ds, .int en, .int pl, .int he, .int gv, .int rp, .int 0, .int pl]))]) hx hb hts inX0 tyX0 tyX0_ok nmX0 hown hK hP hD hS 0 rfl rfl 9 (by decide) k_51 rfl (by decide +kernel) (rfl) (by first | rfl | decide) (Nat.le_of_ble_eq_true rfl) rfl dX0_ageMask_29 (fun H locs hP hD hS => ?_)
    have e9 : cAge mk (pl - la) = 0 := by rw [← e_1]; exact if_pos c_2
    exact hret _ _ _ _ dX0_ageMask_32 (by rw [e9]; exact hP) (by rw [e9]; exact hD) hS
  · refine lv_iload_n hx hb dX0_ageMask_22 rfl (lv_at hl 0 rfl) ?_
    refine lv_iconst (v := 5) hx hb dX0_ageMask_23 (by decide) ?_
    refine lv_icmp_le (tgt := 33) hx hb dX0_ageMask_24 (by decide) (fun c_3 => ?_) (fun c_3 => ?_)
    · obtain ⟨dn, hdn, edn⟩ := nI_of c_2
      subst edn
      have hd5 : dn ≤ 5 := (kLe (a := dn) (b := 5) rfl rfl (by omega) (by omega)).mp c_3
      have loop : ∀ (K : Nat) (j : Nat) (hj : j + K = dn) (H : Heap) (locs : List Loc) (ls : Array Slot), va_P D vwCl [(q, .inr (0, [.ref ro, .ref pa, .int kd, .int ds, .int en, .int pl, .int he, .int gv, .int rp, .int (cAgeN mk j), .int pl]))] H → va_D A [(q, .inr (0, [.ref ro, .ref pa, .int kd, .int ds, .int en, .int pl, .int he, .int gv, .int rp, .int (cAgeN mk j), .int pl]))] → va_S A s.heap H locs → lv_has ls 3 [(0, .ref q), (1, .int (nI dn)), (2, .int (nI j))] → W p l e ({ frames := 0, cells := 0, slots := 0, locals := 0 }) s m args below meth c H locs 0 0 Q (F0 m 35 ls []) := by
        intro K
        induction K with
        | zero =>
          intro j hj H locs ls hP hD hS hl
          obtain rfl : j = dn := by omega
          refine lv_iload_n hx hb dX0_ageMask_35 rfl (lv_at hl 2 rfl) ?_
          refine lv_iload_n hx hb dX0_ageMask_36 rfl (lv_at hl 1 rfl) ?_
          refine lv_icmp_ge (tgt := 59) hx hb dX0_ageMask_37 (by decide) (fun c_4 => ?_) (fun c_4 => ?_)
          · have e9 : cAge mk (pl - la) = cAgeN mk j := by rw [← e_1]; refine (if_neg c_2).trans ((if_pos c_3).trans ?_); rw [nI_clamp (by omega)]
            exact hret _ _ _ _ dX0_ageMask_59 (by rw [e9]; exact hP) (by rw [e9]; exact hD) hS
          · exact absurd ((kLe rfl rfl (by omega) (by omega)).mpr (Nat.le_refl _)) c_4
        | succ K ih =>
          intro j hj H locs ls hP hD hS hl
          refine lv_iload_n hx hb dX0_ageMask_35 rfl (lv_at hl 2 rfl) ?_
          refine lv_iload_n hx hb dX0_ageMask_36 rfl (lv_at hl 1 rfl) ?_
          refine lv_icmp_ge (tgt := 59) hx hb dX0_ageMask_37 (by decide) (fun c_5 => ?_) (fun c_5 => ?_)
          · exact absurd ((kLe rfl rfl (by omega) (by omega)).mp c_5) (by omega)
          · refine lv_aload_n hx hb dX0_ageMask_40 rfl (lv_at hl 0 rfl) ?_
            refine lv_aload_n hx hb dX0_ageMask_41 rfl (lv_at hl 0 rfl) ?_
            refine va_get (D := D) (ci := 0) (v := .int (cAgeN mk j)) (C := RX0) (T := TX0) (N := 11) hx hb hts inX0 hown hK hP 0 rfl rfl 9 (by decide) k_51 (fun _ h9 => h9) rfl dX0_ageMask_42 ?_
            refine lv_bipush (v := 119) hx hb dX0_ageMask_45 (by decide) ?_
            refine lv_iand hx hb dX0_ageMask_47 ?_
            refine lv_iconst (v := 2) hx hb dX0_ageMask_48 (by decide) ?_
            refine lv_imul hx hb dX0_ageMask_49 ?_
            refine kPut (D := D) (ci := 0) (v := .int (((cAgeN mk j) &&& 119) * 2)) (ty := .int) (C := RX0) (T := TX0) (N := 11) (ws' := [(q, .inr (0, [.ref ro, .ref pa, .int kd, .int ds, .int en, .int pl, .int he, .int gv, .int rp, .int (((cAgeN mk j) &&& 119) * 2), .int pl]))]) hx hb hts inX0 tyX0 tyX0_ok nmX0 hown hK hP hD hS 0 rfl rfl 9 (by decide) k_51 rfl (by decide +kernel) (rfl) (by first | rfl | decide) (Nat.le_of_ble_eq_true rfl) rfl dX0_ageMask_50 (fun H locs hP hD hS => ?_)
            refine lv_iinc (v := nI (j + 1)) (lv' := [(2, .int (nI (j + 1))), (0, .ref q), (1, .int (nI dn))]) hx hb dX0_ageMask_53 hl (k := 2) rfl (nI_1 _) (by decide) rfl (fun ls hl => ?_)
            refine lv_goto (tgt := 35) hx hb dX0_ageMask_56 (by decide) ?_
            exact ih (j + 1) (by omega) _ _ _ hP hD hS (lv_sub hl [1, 2, 0] rfl)
      refine lv_iconst (v := 0) hx hb dX0_ageMask_33 (by decide) ?_
      refine lv_istore_n (lv' := [(2, .int 0), (1, .int (nI dn)), (0, .ref q)]) hx hb dX0_ageMask_34 rfl hl (by decide) rfl (fun ls hl => ?_)
      exact loop dn 0 (by omega) _ _ _ hP hD hS (lv_sub hl [2, 1, 0] rfl)
    · refine lv_aload_n hx hb dX0_ageMask_27 rfl (lv_at hl 1 rfl) ?_
      refine lv_iconst (v := 0) hx hb dX0_ageMask_28 (by decide) ?_
      refine kPut (D := D) (ci := 0) (v := .int 0) (ty := .int) (C := RX0) (T := TX0) (N := 11) (ws' := [(q, .inr (0, [.ref ro, .ref pa, .int kd, .int ds, .int en, .int pl, .int he, .int gv, .int rp, .int 0, .int pl]))]) hx hb hts inX0 tyX0 tyX0_ok nmX0 hown hK hP hD hS 0 rfl rfl 9 (by decide) k_51 rfl (by decide +kernel) (rfl) (by first | rfl | decide) (Nat.le_of_ble_eq_true rfl) rfl dX0_ageMask_29 (fun H locs hP hD hS => ?_)
      have e9 : cAge mk (pl - la) = 0 := by rw [← e_1]; exact (if_neg c_2).trans (if_neg c_3)
      exact hret _ _ _ _ dX0_ageMask_32 (by rw [e9]; exact hP) (by rw [e9]; exact hD) hS

def cKp (mk : Int32) : Int32 := if 2 ≤ mk / 2 then (if 4 ≤ mk / 2 then 3 else 2) else 1
def cTl (en y be tr : Int32) : Nat → Int32 → Int32
  | 0, t => t
  | k + 1, t => if cSg ((kU t (be - 8)) &&& 255) = 0 then t else cTl en y be tr k (cMd en (t ^^^ tr) y)
def cXt (en mk x y : Int32) : Int32 := if mk = 0 then cMd en x y else cTl en y (32 - 8 * cKp mk) ((1 <<< ((32 - 8 * cKp mk) &&& 31)) - 1) 1000 (cMd en x y)

set_option maxHeartbeats 4000000 in
set_option maxRecDepth 100000 in
/-- Filter.x86Target(x, y) -/
theorem c_X0_x86Target (l : Launch) (D : va_G) (cI cF cJ : ClassId) (q ro pa : Nat) (kd ds en pl he gv rp mk la : Int32) (x y : Int32)  : kI l yX0_x86Target wsX0_x86Target ({ frames := 1, cells := 0, slots := 0, locals := 22 }) D (kTy cI cF cJ) [.ref q, .int x, .int y] [(q, .inr (0, [.ref ro, .ref pa, .int kd, .int ds, .int en, .int pl, .int he, .int gv, .int rp, .int mk, .int la]))] [(q, .inr (0, [.ref ro, .ref pa, .int kd, .int ds, .int en, .int pl, .int he, .int gv, .int rp, .int mk, .int la]))] (cXt en mk x y) := by
  refine kI_of (cc := cX0_x86Target) (nL := 9) (ty := .int) (own := RX0) (lv := [(0, .ref q), (1, .int x), (2, .int y)]) (by decide) rfl rfl (Nat.le_of_ble_eq_true rfl) rfl (rfl) ?_
  intro p e s m args below meth c A ls Q C hA hK hP hD hS hl hret
  obtain ⟨hx, hb, hr, hml, hown, hts, hlocks⟩ := C
  have k_51 := hts (.fieldLink RX0 51 "BranchFilters$Filter" "mask" "I") (by decide +kernel)
  have inX0 : ∀ w ∈ wsX00, w ∈ wsX0_x86Target := by decide +kernel
  refine lv_aload_n hx hb dX0_x86Target_0 rfl (lv_at hl 0 rfl) ?_
  refine lv_iload_n hx hb dX0_x86Target_1 rfl (lv_at hl 1 rfl) ?_
  refine lv_iload_n hx hb dX0_x86Target_2 rfl (lv_at hl 2 rfl) ?_
  refine kCallI (As := [.int x, .int y]) (wc := [(q, .inr (0, [.ref ro, .ref pa, .int kd, .int ds, .int en, .int pl, .int he, .int gv, .int rp, .int mk, .int la]))]) (wr := []) (ws' := [(q, .inr (0, [.ref ro, .ref pa, .int kd, .int ds, .int en, .int pl, .int he, .int gv, .int rp, .int mk, .int la]))]) (ci := 0) (C := RX0) ⟨hx, hb, hml, hown, hts⟩ (c_X0_moved l D cI cF cJ q ro pa kd ds en pl he gv rp mk la x y ) (cwV 2 hts gX0_x86Target_X0_moved rfl rfl rfl (by decide +kernel) ⟨Nat.le_of_ble_eq_true rfl, Nat.le_of_ble_eq_true rfl⟩) hK hP hD hS hA [0] [] [0] rfl rfl rfl rfl (by decide) rfl rfl rfl rfl rfl hl.1 (Nat.le_of_ble_eq_true rfl) ⟨Nat.zero_le _, Nat.zero_le _⟩ dX0_x86Target_3 (fun H locs hP hD hS => ?_) rfl
  refine lv_topi (fun x_1 e_1 => ?_)
  refine lv_istore_n (lv' := [(3, .int x_1), (0, .ref q), (1, .int x), (2, .int y)]) hx hb dX0_x86Target_6 rfl hl (by decide) rfl (fun ls hl => ?_)
  refine lv_aload_n hx hb dX0_x86Target_7 rfl (lv_at hl 1 rfl) ?_
  refine va_get (D := D) (ci := 0) (v := .int mk) (C := RX0) (T := TX0) (N := 11) hx hb hts inX0 hown hK hP 0 rfl rfl 9 (by decide) k_51 (fun _ h9 => h9) rfl dX0_x86Target_8 ?_
  refine lv_if_ne (tgt := 16) hx hb dX0_x86Target_11 (by decide) (fun c_2 => ?_) (fun c_2 => ?_)
  · refine lv_aload_n hx hb dX0_x86Target_16 rfl (lv_at hl 1 rfl) ?_
    refine va_get (D := D) (ci := 0) (v := .int mk) (C := RX0) (T := TX0) (N := 11) hx hb hts inX0 hown hK hP 0 rfl rfl 9 (by decide) k_51 (fun _ h9 => h9) rfl dX0_x86Target_17 ?_
    refine lv_iconst (v := 2) hx hb dX0_x86Target_20 (by decide) ?_
    refine lv_idiv hx hb dX0_x86Target_21 (by decide) ?_
    refine lv_topi (fun x_3 e_3 => ?_)
    refine lv_istore (lv' := [(4, .int x_3), (3, .int x_1), (0, .ref q), (1, .int x), (2, .int y)]) hx hb dX0_x86Target_22 hl (by decide) rfl (fun ls hl => ?_)
    subst e_3
    have J45 : ∀ (v : Int32), v = cKp mk → W p l e ({ frames := 1, cells := 0, slots := 0, locals := 22 }) s m args below meth c H locs 0 0 Q (F0 m 45 ls [.int v]) := by
      intro v e_v
      subst e_v
      refine lv_topi (fun x_4 e_4 => ?_)
      refine lv_istore (lv' := [(5, .int x_4), (4, .int (mk / 2)), (3, .int x_1), (0, .ref q), (1, .int x), (2, .int y)]) hx hb dX0_x86Target_45 hl (by decide) rfl (fun ls hl => ?_)
      refine lv_bipush (v := 32) hx hb dX0_x86Target_47 (by decide) ?_
      refine lv_bipush (v := 8) hx hb dX0_x86Target_49 (by decide) ?_
      refine lv_iload hx hb dX0_x86Target_51 (lv_at hl 0 rfl) ?_
      refine lv_imul hx hb dX0_x86Target_53 ?_
      refine lv_isub hx hb dX0_x86Target_54 ?_
      refine lv_topi (fun x_5 e_5 => ?_)
      refine lv_istore (lv' := [(6, .int x_5), (5, .int x_4), (4, .int (mk / 2)), (3, .int x_1), (0, .ref q), (1, .int x), (2, .int y)]) hx hb dX0_x86Target_55 hl (by decide) rfl (fun ls hl => ?_)
      refine lv_iconst (v := 1) hx hb dX0_x86Target_57 (by decide) ?_
      refine lv_iload hx hb dX0_x86Target_58 (lv_at hl 0 rfl) ?_
      refine lv_ishl hx hb dX0_x86Target_60 ?_
      refine lv_iconst (v := 1) hx hb dX0_x86Target_61 (by decide) ?_
      refine lv_isub hx hb dX0_x86Target_62 ?_
      refine lv_topi (fun x_6 e_6 => ?_)
      refine lv_istore (lv' := [(7, .int x_6), (6, .int x_5), (5, .int x_4), (4, .int (mk / 2)), (3, .int x_1), (0, .ref q), (1, .int x), (2, .int y)]) hx hb dX0_x86Target_63 hl (by decide) rfl (fun ls hl => ?_)
      refine lv_iconst (v := 0) hx hb dX0_x86Target_65 (by decide) ?_
      refine lv_istore (lv' := [(8, .int 0), (7, .int x_6), (6, .int x_5), (5, .int x_4), (4, .int (mk / 2)), (3, .int x_1), (0, .ref q), (1, .int x), (2, .int y)]) hx hb dX0_x86Target_66 hl (by decide) rfl (fun ls hl => ?_)
      have loop : ∀ (K : Nat) (j : Nat) (t : Int32) (hj : j + K = 1000) (ht : cTl en y x_5 x_6 K t = cTl en y x_5 x_6 1000 x_1) (H : Heap) (locs : List Loc) (ls : Array Slot), va_P D vwCl [(q, .inr (0, [.ref ro, .ref pa, .int kd, .int ds, .int en, .int pl, .int he, .int gv, .int rp, .int mk, .int la]))] H → va_D A [(q, .inr (0, [.ref ro, .ref pa, .int kd, .int ds, .int en, .int pl, .int he, .int gv, .int rp, .int mk, .int la]))] → va_S A s.heap H locs → lv_has ls 9 [(0, .ref q), (2, .int y), (3, .int t), (6, .int x_5), (7, .int x_6), (8, .int (nI j))] → W p l e ({ frames := 1, cells := 0, slots := 0, locals := 22 }) s m args below meth c H locs 0 0 Q (F0 m 68 ls []) := by
        intro K
        induction K with
        | zero =>
          intro j t hj ht H locs ls hP hD hS hl
          obtain rfl : j = 1000 := by omega
          refine lv_iload hx hb dX0_x86Target_68 (lv_at hl 5 rfl) ?_
          refine lv_sipush (v := 1000) hx hb dX0_x86Target_70 (by decide) ?_
          refine lv_icmp_ge (tgt := 112) hx hb dX0_x86Target_73 (by decide) (fun c_7 => ?_) (fun c_7 => ?_)
          · refine lv_iload_n hx hb dX0_x86Target_112 rfl (lv_at hl 2 rfl) ?_
            have e9 : t = cXt en mk x y := by
              have h8 : t = cTl en y x_5 x_6 1000 x_1 := by
                rw [← ht]; rfl
              rw [h8]
              subst e_6
              subst e_5
              subst e_4
              subst e_1
              exact (if_neg c_2).symm
            exact hret _ _ _ _ _ dX0_x86Target_113 e9 hP hD hS
          · exact absurd ((kLe (a := 1000) (b := 1000) rfl rfl (by omega) (by omega)).mpr (by omega)) c_7
        | succ K ih =>
          intro j t hj ht H locs ls hP hD hS hl
          refine lv_iload hx hb dX0_x86Target_68 (lv_at hl 5 rfl) ?_
          refine lv_sipush (v := 1000) hx hb dX0_x86Target_70 (by decide) ?_
          refine lv_icmp_ge (tgt := 112) hx hb dX0_x86Target_73 (by decide) (fun c_8 => ?_) (fun c_8 => ?_)
          · exact absurd ((kLe (a := 1000) (b := j) rfl rfl (by omega) (by omega)).mp c_8) (by omega)
          · refine lv_iload_n hx hb dX0_x86Target_76 rfl (lv_at hl 2 rfl) ?_
            refine lv_iload hx hb dX0_x86Target_77 (lv_at hl 3 rfl) ?_
            refine lv_bipush (v := 8) hx hb dX0_x86Target_79 (by decide) ?_
            refine lv_isub hx hb dX0_x86Target_81 ?_
            refine lv_iushr (v := (kU t (x_5 - 8))) hx hb dX0_x86Target_82 rfl ?_
            refine lv_sipush (v := 255) hx hb dX0_x86Target_83 (by decide) ?_
            refine lv_iand hx hb dX0_x86Target_86 ?_
            refine kCallS (As := [.int ((kU t (x_5 - 8)) &&& 255)]) ⟨hx, hb, hml, hown, hts⟩ (c_X0_isSignByte l D cI cF cJ ((kU t (x_5 - 8)) &&& 255) ) (cwS 1 hts gX0_x86Target_X0_isSignByte rfl rfl rfl (by decide +kernel) ⟨Nat.le_of_ble_eq_true rfl, Nat.le_of_ble_eq_true rfl⟩) hK hP hD hS hA rfl hl.1 (Nat.le_of_ble_eq_true rfl) ⟨Nat.zero_le _, Nat.zero_le _⟩ dX0_x86Target_87 (fun H locs hP hD hS => ?_) rfl
            refine lv_if_ne (tgt := 96) hx hb dX0_x86Target_90 (by decide) (fun c_9 => ?_) (fun c_9 => ?_)
            · refine lv_aload_n hx hb dX0_x86Target_96 rfl (lv_at hl 0 rfl) ?_
              refine lv_iload_n hx hb dX0_x86Target_97 rfl (lv_at hl 2 rfl) ?_
              refine lv_iload hx hb dX0_x86Target_98 (lv_at hl 4 rfl) ?_
              refine lv_ixor hx hb dX0_x86Target_100 ?_
              refine lv_iload_n hx hb dX0_x86Target_101 rfl (lv_at hl 1 rfl) ?_
              refine kCallI (As := [.int (t ^^^ x_6), .int y]) (wc := [(q, .inr (0, [.ref ro, .ref pa, .int kd, .int ds, .int en, .int pl, .int he, .int gv, .int rp, .int mk, .int la]))]) (wr := []) (ws' := [(q, .inr (0, [.ref ro, .ref pa, .int kd, .int ds, .int en, .int pl, .int he, .int gv, .int rp, .int mk, .int la]))]) (ci := 0) (C := RX0) ⟨hx, hb, hml, hown, hts⟩ (c_X0_moved l D cI cF cJ q ro pa kd ds en pl he gv rp mk la (t ^^^ x_6) y ) (cwV 2 hts gX0_x86Target_X0_moved rfl rfl rfl (by decide +kernel) ⟨Nat.le_of_ble_eq_true rfl, Nat.le_of_ble_eq_true rfl⟩) hK hP hD hS hA [0] [] [0] rfl rfl rfl rfl (by decide) rfl rfl rfl rfl rfl hl.1 (Nat.le_of_ble_eq_true rfl) ⟨Nat.zero_le _, Nat.zero_le _⟩ dX0_x86Target_102 (fun H locs hP hD hS => ?_) rfl
              refine lv_topi (fun x_10 e_10 => ?_)
              refine lv_istore_n (lv' := [(3, .int x_10), (0, .ref q), (2, .int y), (6, .int x_5), (7, .int x_6), (8, .int (nI j))]) hx hb dX0_x86Target_105 rfl hl (by decide) rfl (fun ls hl => ?_)
              refine lv_iinc (v := nI (j + 1)) (lv' := [(8, .int (nI (j + 1))), (3, .int x_10), (0, .ref q), (2, .int y), (6, .int x_5), (7, .int x_6)]) hx hb dX0_x86Target_106 hl (k := 5) rfl (nI_1 _) (by decide) rfl (fun ls hl => ?_)
              refine lv_goto (tgt := 68) hx hb dX0_x86Target_109 (by decide) ?_
              exact ih (j + 1) x_10 (by omega) (by rw [← ht, e_10]; exact (if_neg c_9).symm) _ _ _ hP hD hS (lv_sub hl [2, 3, 1, 4, 5, 0] rfl)
            · refine lv_goto (tgt := 112) hx hb dX0_x86Target_93 (by decide) ?_
              refine lv_iload_n hx hb dX0_x86Target_112 rfl (lv_at hl 2 rfl) ?_
              have e9 : t = cXt en mk x y := by
                have h8 : t = cTl en y x_5 x_6 1000 x_1 := by
                  rw [← ht]; exact (if_pos c_9).symm
                rw [h8]
                subst e_6
                subst e_5
                subst e_4
                subst e_1
                exact (if_neg c_2).symm
              exact hret _ _ _ _ _ dX0_x86Target_113 e9 hP hD hS
      exact loop 1000 0 x_1 (by omega) rfl _ _ _ hP hD hS (lv_sub hl [6, 8, 5, 2, 1, 0] rfl)
    refine lv_iload hx hb dX0_x86Target_24 (lv_at hl 0 rfl) ?_
    refine lv_iconst (v := 2) hx hb dX0_x86Target_26 (by decide) ?_
    refine lv_icmp_ge (tgt := 34) hx hb dX0_x86Target_27 (by decide) (fun c_11 => ?_) (fun c_11 => ?_)
    · refine lv_iload hx hb dX0_x86Target_34 (lv_at hl 0 rfl) ?_
      refine lv_iconst (v := 4) hx hb dX0_x86Target_36 (by decide) ?_
      refine lv_icmp_ge (tgt := 44) hx hb dX0_x86Target_37 (by decide) (fun c_12 => ?_) (fun c_12 => ?_)
      · refine lv_iconst (v := 3) hx hb dX0_x86Target_44 (by decide) ?_
        exact J45 _ (((if_pos c_11).trans (if_pos c_12)).symm)
      · refine lv_iconst (v := 2) hx hb dX0_x86Target_40 (by decide) ?_
        refine lv_goto (tgt := 45) hx hb dX0_x86Target_41 (by decide) ?_
        exact J45 _ (((if_pos c_11).trans (if_neg c_12)).symm)
    · refine lv_iconst (v := 1) hx hb dX0_x86Target_30 (by decide) ?_
      refine lv_goto (tgt := 45) hx hb dX0_x86Target_31 (by decide) ?_
      exact J45 _ (((if_neg c_11).symm))
  · refine lv_iload_n hx hb dX0_x86Target_14 rfl (lv_at hl 0 rfl) ?_
    subst e_1
    exact hret _ _ _ _ _ dX0_x86Target_15 ((if_pos c_2).symm) hP hD hS

def cX86 (en : Int32) (pl : Int32) (rp : Int32) (mk : Int32) (la : Int32) (h : Nat) (g : Nat → Int32) : Int32 × Int32 × Int32 × Int32 × (Nat → Int32) := (if (g h) = 232 then (if (cSg (g (h + 4))) = 0 then (1, rp, (cAge mk (pl - la)) ||| 1, pl, g) else (if cAl (cAge mk (pl - la)) = 0 then (1, rp, (cAge mk (pl - la)) ||| 17, pl, g) else (5, rp + 1, 0, pl, cSetLo g (h + 1) (((cXt en (cAge mk (pl - la)) (cLo g (h + 1)) (pl + 5)) <<< ((7 : Int32) &&& 31)) >>> ((7 : Int32) &&& 31))))) else (if (g h) = 233 then (if (cSg (g (h + 4))) = 0 then (1, rp, (cAge mk (pl - la)) ||| 1, pl, g) else (if cAl (cAge mk (pl - la)) = 0 then (1, rp, (cAge mk (pl - la)) ||| 17, pl, g) else (5, rp + 1, 0, pl, cSetLo g (h + 1) (((cXt en (cAge mk (pl - la)) (cLo g (h + 1)) (pl + 5)) <<< ((7 : Int32) &&& 31)) >>> ((7 : Int32) &&& 31))))) else (1, rp, mk, la, g)))

set_option maxHeartbeats 4000000 in
set_option maxRecDepth 100000 in
/-- Filter.stepX86() -/
theorem c_X0_stepX86 (l : Launch) (D : va_G) (cI cF cJ : ClassId) (q ro pa rb h : Nat) (kd ds en pl gv rp mk la sz : Int32) (g : Nat → Int32) (hk : h + 4 < 64) : kI l yX0_stepX86 wsX0_stepX86 ({ frames := 2, cells := 0, slots := 0, locals := 50 }) D (kTy cI cF cJ) [.ref q] [(q, .inr (0, [.ref ro, .ref pa, .int kd, .int ds, .int en, .int pl, .int (nI h), .int gv, .int rp, .int mk, .int la])), (ro, .inr (1, [.ref rb, .int sz])), (rb, .inl (cI, 64, .inl g))] [(q, .inr (0, [.ref ro, .ref pa, .int kd, .int ds, .int en, .int pl, .int (nI h), .int gv, .int ((cX86 en pl rp mk la h g).2.1), .int ((cX86 en pl rp mk la h g).2.2.1), .int ((cX86 en pl rp mk la h g).2.2.2.1)])), (ro, .inr (1, [.ref rb, .int sz])), (rb, .inl (cI, 64, .inl ((cX86 en pl rp mk la h g).2.2.2.2)))] ((cX86 en pl rp mk la h g).1) := by
  refine kI_of (cc := cX0_stepX86) (nL := 4) (ty := .int) (own := RX0) (lv := [(0, .ref q)]) (by decide) rfl rfl (Nat.le_of_ble_eq_true rfl) rfl (rfl) ?_
  intro p e s m args below meth c A ls Q C hA hK hP hD hS hl hret
  obtain ⟨hx, hb, hr, hml, hown, hts, hlocks⟩ := C
  have k_14 := hts (.fieldLink RX0 14 "BranchFilters$Filter" "held" "LBranchFilters$Row;") (by decide +kernel)
  have k_42 := hts (.fieldLink RX0 42 "BranchFilters$Filter" "place" "I") (by decide +kernel)
  have k_48 := hts (.fieldLink RX0 48 "BranchFilters$Filter" "replaced" "I") (by decide +kernel)
  have k_51 := hts (.fieldLink RX0 51 "BranchFilters$Filter" "mask" "I") (by decide +kernel)
  have k_65 := hts (.fieldLink RX0 65 "BranchFilters$Filter" "here" "I") (by decide +kernel)
  have inX0 : ∀ w ∈ wsX00, w ∈ wsX0_stepX86 := by decide +kernel
  refine lv_aload_n hx hb dX0_stepX86_0 rfl (lv_at hl 0 rfl) ?_
  refine va_get (D := D) (ci := 0) (v := .ref ro) (C := RX0) (T := TX0) (N := 11) hx hb hts inX0 hown hK hP 0 rfl rfl 0 (by decide) k_14 (fun _ h9 => h9) rfl dX0_stepX86_1 ?_
  refine lv_aload_n hx hb dX0_stepX86_4 rfl (lv_at hl 0 rfl) ?_
  refine va_get (D := D) (ci := 0) (v := .int (nI h)) (C := RX0) (T := TX0) (N := 11) hx hb hts inX0 hown hK hP 0 rfl rfl 6 (by decide) k_65 (fun _ h9 => h9) rfl dX0_stepX86_5 ?_
  refine kCallI (As := [.int (nI h)]) (wc := [(ro, .inr (1, [.ref rb, .int sz])), (rb, .inl (cI, 64, .inl g))]) (wr := [(q, .inr (0, [.ref ro, .ref pa, .int kd, .int ds, .int en, .int pl, .int (nI h), .int gv, .int rp, .int mk, .int la]))]) (ws' := [(q, .inr (0, [.ref ro, .ref pa, .int kd, .int ds, .int en, .int pl, .int (nI h), .int gv, .int rp, .int mk, .int la])), (ro, .inr (1, [.ref rb, .int sz])), (rb, .inl (cI, 64, .inl g))]) (ci := 1) (C := RX1) ⟨hx, hb, hml, hown, hts⟩ (c_X1_at l D cI cF cJ ro rb 64 h g sz (by omega) (by omega)) (cwV 1 hts gX0_stepX86_X1_at rfl rfl rfl (by decide +kernel) ⟨Nat.le_of_ble_eq_true rfl, Nat.le_of_ble_eq_true rfl⟩) hK hP hD hS hA [1, 2] [0] [0, 1, 2] rfl rfl rfl rfl (by decide) rfl rfl rfl rfl rfl hl.1 (Nat.le_of_ble_eq_true rfl) ⟨Nat.zero_le _, Nat.zero_le _⟩ dX0_stepX86_8 (fun H locs hP hD hS => ?_) rfl
  refine lv_topi (fun x_1 e_1 => ?_)
  refine lv_istore_n (lv' := [(1, .int x_1), (0, .ref q)]) hx hb dX0_stepX86_11 rfl hl (by decide) rfl (fun ls hl => ?_)
  refine lv_iload_n hx hb dX0_stepX86_12 rfl (lv_at hl 0 rfl) ?_
  refine lv_sipush (v := 232) hx hb dX0_stepX86_13 (by decide) ?_
  refine lv_icmp_eq (tgt := 28) hx hb dX0_stepX86_16 (by decide) (fun c_2 => ?_) (fun c_2 => ?_)
  · refine lv_aload_n hx hb dX0_stepX86_28 rfl (lv_at hl 1 rfl) ?_
    refine kCallV (As := []) (wc := [(q, .inr (0, [.ref ro, .ref pa, .int kd, .int ds, .int en, .int pl, .int (nI h), .int gv, .int rp, .int mk, .int la]))]) (wr := [(ro, .inr (1, [.ref rb, .int sz])), (rb, .inl (cI, 64, .inl g))]) (ws' := [(q, .inr (0, [.ref ro, .ref pa, .int kd, .int ds, .int en, .int pl, .int (nI h), .int gv, .int rp, .int (cAge mk (pl - la)), .int pl])), (ro, .inr (1, [.ref rb, .int sz])), (rb, .inl (cI, 64, .inl g))]) (ci := 0) (C := RX0) ⟨hx, hb, hml, hown, hts⟩ (c_X0_ageMask l D cI cF cJ q ro pa kd ds en pl (nI h) gv rp mk la ) (cwV 0 hts gX0_stepX86_X0_ageMask rfl rfl rfl (by decide +kernel) ⟨Nat.le_of_ble_eq_true rfl, Nat.le_of_ble_eq_true rfl⟩) hK hP hD hS hA [0] [1, 2] [2, 0, 1] rfl rfl rfl rfl (by decide) rfl rfl rfl rfl rfl hl.1 (Nat.le_of_ble_eq_true rfl) ⟨Nat.zero_le _, Nat.zero_le _⟩ dX0_stepX86_29 (fun H locs hP hD hS => ?_) rfl
    refine lv_aload_n hx hb dX0_stepX86_32 rfl (lv_at hl 1 rfl) ?_
    refine va_get (D := D) (ci := 0) (v := .ref ro) (C := RX0) (T := TX0) (N := 11) hx hb hts inX0 hown hK hP 0 rfl rfl 0 (by decide) k_14 (fun _ h9 => h9) rfl dX0_stepX86_33 ?_
    refine lv_aload_n hx hb dX0_stepX86_36 rfl (lv_at hl 1 rfl) ?_
    refine va_get (D := D) (ci := 0) (v := .int (nI h)) (C := RX0) (T := TX0) (N := 11) hx hb hts inX0 hown hK hP 0 rfl rfl 6 (by decide) k_65 (fun _ h9 => h9) rfl dX0_stepX86_37 ?_
    refine lv_iconst (v := 4) hx hb dX0_stepX86_40 (by decide) ?_
    refine lv_iadd hx hb dX0_stepX86_41 ?_
    refine kTop (y := nI (h + 4)) (nI_add _ 4) ?_
    refine kCallI (As := [.int (nI (h + 4))]) (wc := [(ro, .inr (1, [.ref rb, .int sz])), (rb, .inl (cI, 64, .inl g))]) (wr := [(q, .inr (0, [.ref ro, .ref pa, .int kd, .int ds, .int en, .int pl, .int (nI h), .int gv, .int rp, .int (cAge mk (pl - la)), .int pl]))]) (ws' := [(q, .inr (0, [.ref ro, .ref pa, .int kd, .int ds, .int en, .int pl, .int (nI h), .int gv, .int rp, .int (cAge mk (pl - la)), .int pl])), (ro, .inr (1, [.ref rb, .int sz])), (rb, .inl (cI, 64, .inl g))]) (ci := 1) (C := RX1) ⟨hx, hb, hml, hown, hts⟩ (c_X1_at l D cI cF cJ ro rb 64 (h + 4) g sz (by omega) (by omega)) (cwV 1 hts gX0_stepX86_X1_at rfl rfl rfl (by decide +kernel) ⟨Nat.le_of_ble_eq_true rfl, Nat.le_of_ble_eq_true rfl⟩) hK hP hD hS hA [1, 2] [0] [0, 1, 2] rfl rfl rfl rfl (by decide) rfl rfl rfl rfl rfl hl.1 (Nat.le_of_ble_eq_true rfl) ⟨Nat.zero_le _, Nat.zero_le _⟩ dX0_stepX86_42 (fun H locs hP hD hS => ?_) rfl
    refine kCallS (As := [.int (g (h + 4))]) ⟨hx, hb, hml, hown, hts⟩ (c_X0_isSignByte l D cI cF cJ (g (h + 4)) ) (cwS 1 hts gX0_stepX86_X0_isSignByte rfl rfl rfl (by decide +kernel) ⟨Nat.le_of_ble_eq_true rfl, Nat.le_of_ble_eq_true rfl⟩) hK hP hD hS hA rfl hl.1 (Nat.le_of_ble_eq_true rfl) ⟨Nat.zero_le _, Nat.zero_le _⟩ dX0_stepX86_45 (fun H locs hP hD hS => ?_) rfl
    refine lv_topi (fun x_3 e_3 => ?_)
    refine lv_istore_n (lv' := [(2, .int x_3), (1, .int x_1), (0, .ref q)]) hx hb dX0_stepX86_48 rfl hl (by decide) rfl (fun ls hl => ?_)
    refine lv_iload_n hx hb dX0_stepX86_49 rfl (lv_at hl 0 rfl) ?_
    refine lv_if_eq (tgt := 121) hx hb dX0_stepX86_50 (by decide) (fun c_4 => ?_) (fun c_4 => ?_)
    · refine lv_aload_n hx hb dX0_stepX86_121 rfl (lv_at hl 2 rfl) ?_
      refine lv_dup hx hb dX0_stepX86_122 rfl ?_
      refine va_get (D := D) (ci := 0) (v := .int (cAge mk (pl - la))) (C := RX0) (T := TX0) (N := 11) hx hb hts inX0 hown hK hP 0 rfl rfl 9 (by decide) k_51 (fun _ h9 => h9) rfl dX0_stepX86_123 ?_
      refine lv_iload_n hx hb dX0_stepX86_126 rfl (lv_at hl 0 rfl) ?_
      refine lv_if_eq (tgt := 135) hx hb dX0_stepX86_127 (by decide) (fun c_5 => ?_) (fun c_5 => ?_)
      · refine lv_iconst (v := 1) hx hb dX0_stepX86_135 (by decide) ?_
        refine lv_ior hx hb dX0_stepX86_136 ?_
        refine kPut (D := D) (ci := 0) (v := .int ((cAge mk (pl - la)) ||| 1)) (ty := .int) (C := RX0) (T := TX0) (N := 11) (ws' := [(q, .inr (0, [.ref ro, .ref pa, .int kd, .int ds, .int en, .int pl, .int (nI h), .int gv, .int rp, .int ((cAge mk (pl - la)) ||| 1), .int pl])), (ro, .inr (1, [.ref rb, .int sz])), (rb, .inl (cI, 64, .inl g))]) hx hb hts inX0 tyX0 tyX0_ok nmX0 hown hK hP hD hS 0 rfl rfl 9 (by decide) k_51 rfl (by decide +kernel) (rfl) (by first | rfl | decide) (Nat.le_of_ble_eq_true rfl) rfl dX0_stepX86_137 (fun H locs hP hD hS => ?_)
        refine lv_iconst (v := 1) hx hb dX0_stepX86_140 (by decide) ?_
        subst e_3
        subst e_1
        have e9 : cX86 en pl rp mk la h g = (1, rp, (cAge mk (pl - la)) ||| 1, pl, g) := (if_pos c_2).trans (if_pos c_4)
        exact hret _ _ _ _ _ dX0_stepX86_141 (by rw [e9]) (by rw [e9]; exact hP) (by rw [e9]; exact hD) hS
      · exact absurd c_4 c_5
    · refine lv_aload_n hx hb dX0_stepX86_53 rfl (lv_at hl 2 rfl) ?_
      refine kCallI (As := []) (wc := [(q, .inr (0, [.ref ro, .ref pa, .int kd, .int ds, .int en, .int pl, .int (nI h), .int gv, .int rp, .int (cAge mk (pl - la)), .int pl]))]) (wr := [(ro, .inr (1, [.ref rb, .int sz])), (rb, .inl (cI, 64, .inl g))]) (ws' := [(q, .inr (0, [.ref ro, .ref pa, .int kd, .int ds, .int en, .int pl, .int (nI h), .int gv, .int rp, .int (cAge mk (pl - la)), .int pl])), (ro, .inr (1, [.ref rb, .int sz])), (rb, .inl (cI, 64, .inl g))]) (ci := 0) (C := RX0) ⟨hx, hb, hml, hown, hts⟩ (c_X0_maskAllows l D cI cF cJ q ro pa kd ds en pl (nI h) gv rp (cAge mk (pl - la)) pl ) (cwV 0 hts gX0_stepX86_X0_maskAllows rfl rfl rfl (by decide +kernel) ⟨Nat.le_of_ble_eq_true rfl, Nat.le_of_ble_eq_true rfl⟩) hK hP hD hS hA [0] [1, 2] [2, 0, 1] rfl rfl rfl rfl (by decide) rfl rfl rfl rfl rfl hl.1 (Nat.le_of_ble_eq_true rfl) ⟨Nat.zero_le _, Nat.zero_le _⟩ dX0_stepX86_54 (fun H locs hP hD hS => ?_) rfl
      refine lv_if_eq (tgt := 121) hx hb dX0_stepX86_57 (by decide) (fun c_6 => ?_) (fun c_6 => ?_)
      · refine lv_aload_n hx hb dX0_stepX86_121 rfl (lv_at hl 2 rfl) ?_
        refine lv_dup hx hb dX0_stepX86_122 rfl ?_
        refine va_get (D := D) (ci := 0) (v := .int (cAge mk (pl - la))) (C := RX0) (T := TX0) (N := 11) hx hb hts inX0 hown hK hP 0 rfl rfl 9 (by decide) k_51 (fun _ h9 => h9) rfl dX0_stepX86_123 ?_
        refine lv_iload_n hx hb dX0_stepX86_126 rfl (lv_at hl 0 rfl) ?_
        refine lv_if_eq (tgt := 135) hx hb dX0_stepX86_127 (by decide) (fun c_7 => ?_) (fun c_7 => ?_)
        · exact absurd c_7 c_4
        · refine lv_bipush (v := 17) hx hb dX0_stepX86_130 (by decide) ?_
          refine lv_goto (tgt := 136) hx hb dX0_stepX86_132 (by decide) ?_
          refine lv_ior hx hb dX0_stepX86_136 ?_
          refine kPut (D := D) (ci := 0) (v := .int ((cAge mk (pl - la)) ||| 17)) (ty := .int) (C := RX0) (T := TX0) (N := 11) (ws' := [(q, .inr (0, [.ref ro, .ref pa, .int kd, .int ds, .int en, .int pl, .int (nI h), .int gv, .int rp, .int ((cAge mk (pl - la)) ||| 17), .int pl])), (ro, .inr (1, [.ref rb, .int sz])), (rb, .inl (cI, 64, .inl g))]) hx hb hts inX0 tyX0 tyX0_ok nmX0 hown hK hP hD hS 0 rfl rfl 9 (by decide) k_51 rfl (by decide +kernel) (rfl) (by first | rfl | decide) (Nat.le_of_ble_eq_true rfl) rfl dX0_stepX86_137 (fun H locs hP hD hS => ?_)
          refine lv_iconst (v := 1) hx hb dX0_stepX86_140 (by decide) ?_
          subst e_3
          subst e_1
          have e9 : cX86 en pl rp mk la h g = (1, rp, (cAge mk (pl - la)) ||| 17, pl, g) := (if_pos c_2).trans ((if_neg c_4).trans (if_pos c_6))
          exact hret _ _ _ _ _ dX0_stepX86_141 (by rw [e9]) (by rw [e9]; exact hP) (by rw [e9]; exact hD) hS
      · refine lv_aload_n hx hb dX0_stepX86_60 rfl (lv_at hl 2 rfl) ?_
        refine lv_aload_n hx hb dX0_stepX86_61 rfl (lv_at hl 2 rfl) ?_
        refine va_get (D := D) (ci := 0) (v := .ref ro) (C := RX0) (T := TX0) (N := 11) hx hb hts inX0 hown hK hP 0 rfl rfl 0 (by decide) k_14 (fun _ h9 => h9) rfl dX0_stepX86_62 ?_
        refine lv_aload_n hx hb dX0_stepX86_65 rfl (lv_at hl 2 rfl) ?_
        refine va_get (D := D) (ci := 0) (v := .int (nI h)) (C := RX0) (T := TX0) (N := 11) hx hb hts inX0 hown hK hP 0 rfl rfl 6 (by decide) k_65 (fun _ h9 => h9) rfl dX0_stepX86_66 ?_
        refine lv_iconst (v := 1) hx hb dX0_stepX86_69 (by decide) ?_
        refine lv_iadd hx hb dX0_stepX86_70 ?_
        refine kTop (y := nI (h + 1)) (nI_add _ 1) ?_
        refine kCallI (As := [.int (nI (h + 1))]) (wc := [(ro, .inr (1, [.ref rb, .int sz])), (rb, .inl (cI, 64, .inl g))]) (wr := [(q, .inr (0, [.ref ro, .ref pa, .int kd, .int ds, .int en, .int pl, .int (nI h), .int gv, .int rp, .int (cAge mk (pl - la)), .int pl]))]) (ws' := [(q, .inr (0, [.ref ro, .ref pa, .int kd, .int ds, .int en, .int pl, .int (nI h), .int gv, .int rp, .int (cAge mk (pl - la)), .int pl])), (ro, .inr (1, [.ref rb, .int sz])), (rb, .inl (cI, 64, .inl g))]) (ci := 1) (C := RX1) ⟨hx, hb, hml, hown, hts⟩ (c_X1_lowestFirst l D cI cF cJ ro rb 64 (h + 1) g sz (by omega) (by omega)) (cwV 1 hts gX0_stepX86_X1_lowestFirst rfl rfl rfl (by decide +kernel) ⟨Nat.le_of_ble_eq_true rfl, Nat.le_of_ble_eq_true rfl⟩) hK hP hD hS hA [1, 2] [0] [0, 1, 2] rfl rfl rfl rfl (by decide) rfl rfl rfl rfl rfl hl.1 (Nat.le_of_ble_eq_true rfl) ⟨Nat.zero_le _, Nat.zero_le _⟩ dX0_stepX86_71 (fun H locs hP hD hS => ?_) rfl
        refine lv_aload_n hx hb dX0_stepX86_74 rfl (lv_at hl 2 rfl) ?_
        refine va_get (D := D) (ci := 0) (v := .int pl) (C := RX0) (T := TX0) (N := 11) hx hb hts inX0 hown hK hP 0 rfl rfl 5 (by decide) k_42 (fun _ h9 => h9) rfl dX0_stepX86_75 ?_
        refine lv_iconst (v := 5) hx hb dX0_stepX86_78 (by decide) ?_
        refine lv_iadd hx hb dX0_stepX86_79 ?_
        refine kCallI (As := [.int (cLo g (h + 1)), .int (pl + 5)]) (wc := [(q, .inr (0, [.ref ro, .ref pa, .int kd, .int ds, .int en, .int pl, .int (nI h), .int gv, .int rp, .int (cAge mk (pl - la)), .int pl]))]) (wr := [(ro, .inr (1, [.ref rb, .int sz])), (rb, .inl (cI, 64, .inl g))]) (ws' := [(q, .inr (0, [.ref ro, .ref pa, .int kd, .int ds, .int en, .int pl, .int (nI h), .int gv, .int rp, .int (cAge mk (pl - la)), .int pl])), (ro, .inr (1, [.ref rb, .int sz])), (rb, .inl (cI, 64, .inl g))]) (ci := 0) (C := RX0) ⟨hx, hb, hml, hown, hts⟩ (c_X0_x86Target l D cI cF cJ q ro pa kd ds en pl (nI h) gv rp (cAge mk (pl - la)) pl (cLo g (h + 1)) (pl + 5) ) (cwV 2 hts gX0_stepX86_X0_x86Target rfl rfl rfl (by decide +kernel) ⟨Nat.le_of_ble_eq_true rfl, Nat.le_of_ble_eq_true rfl⟩) hK hP hD hS hA [0] [1, 2] [2, 0, 1] rfl rfl rfl rfl (by decide) rfl rfl rfl rfl rfl hl.1 (Nat.le_of_ble_eq_true rfl) ⟨Nat.zero_le _, Nat.zero_le _⟩ dX0_stepX86_80 (fun H locs hP hD hS => ?_) rfl
        refine lv_topi (fun x_8 e_8 => ?_)
        refine lv_istore_n (lv' := [(3, .int x_8), (2, .int x_3), (1, .int x_1), (0, .ref q)]) hx hb dX0_stepX86_83 rfl hl (by decide) rfl (fun ls hl => ?_)
        refine lv_aload_n hx hb dX0_stepX86_84 rfl (lv_at hl 3 rfl) ?_
        refine va_get (D := D) (ci := 0) (v := .ref ro) (C := RX0) (T := TX0) (N := 11) hx hb hts inX0 hown hK hP 0 rfl rfl 0 (by decide) k_14 (fun _ h9 => h9) rfl dX0_stepX86_85 ?_
        refine lv_aload_n hx hb dX0_stepX86_88 rfl (lv_at hl 3 rfl) ?_
        refine va_get (D := D) (ci := 0) (v := .int (nI h)) (C := RX0) (T := TX0) (N := 11) hx hb hts inX0 hown hK hP 0 rfl rfl 6 (by decide) k_65 (fun _ h9 => h9) rfl dX0_stepX86_89 ?_
        refine lv_iconst (v := 1) hx hb dX0_stepX86_92 (by decide) ?_
        refine lv_iadd hx hb dX0_stepX86_93 ?_
        refine kTop (y := nI (h + 1)) (nI_add _ 1) ?_
        refine lv_iload_n hx hb dX0_stepX86_94 rfl (lv_at hl 0 rfl) ?_
        refine lv_bipush (v := 7) hx hb dX0_stepX86_95 (by decide) ?_
        refine lv_ishl hx hb dX0_stepX86_97 ?_
        refine lv_bipush (v := 7) hx hb dX0_stepX86_98 (by decide) ?_
        refine lv_ishr hx hb dX0_stepX86_100 ?_
        refine kCallV (As := [.int (nI (h + 1)), .int ((x_8 <<< ((7 : Int32) &&& 31)) >>> ((7 : Int32) &&& 31))]) (wc := [(ro, .inr (1, [.ref rb, .int sz])), (rb, .inl (cI, 64, .inl g))]) (wr := [(q, .inr (0, [.ref ro, .ref pa, .int kd, .int ds, .int en, .int pl, .int (nI h), .int gv, .int rp, .int (cAge mk (pl - la)), .int pl]))]) (ws' := [(q, .inr (0, [.ref ro, .ref pa, .int kd, .int ds, .int en, .int pl, .int (nI h), .int gv, .int rp, .int (cAge mk (pl - la)), .int pl])), (ro, .inr (1, [.ref rb, .int sz])), (rb, .inl (cI, 64, .inl (cSetLo g (h + 1) ((x_8 <<< ((7 : Int32) &&& 31)) >>> ((7 : Int32) &&& 31)))))]) (ci := 1) (C := RX1) ⟨hx, hb, hml, hown, hts⟩ (c_X1_setLowestFirst l D cI cF cJ ro rb 64 (h + 1) g sz ((x_8 <<< ((7 : Int32) &&& 31)) >>> ((7 : Int32) &&& 31)) (by omega) (by omega)) (cwV 2 hts gX0_stepX86_X1_setLowestFirst rfl rfl rfl (by decide +kernel) ⟨Nat.le_of_ble_eq_true rfl, Nat.le_of_ble_eq_true rfl⟩) hK hP hD hS hA [1, 2] [0] [0, 1, 2] rfl rfl rfl rfl (by decide) rfl rfl rfl rfl rfl hl.1 (Nat.le_of_ble_eq_true rfl) ⟨Nat.zero_le _, Nat.zero_le _⟩ dX0_stepX86_101 (fun H locs hP hD hS => ?_) rfl
        refine lv_aload_n hx hb dX0_stepX86_104 rfl (lv_at hl 3 rfl) ?_
        refine lv_iconst (v := 0) hx hb dX0_stepX86_105 (by decide) ?_
        refine kPut (D := D) (ci := 0) (v := .int 0) (ty := .int) (C := RX0) (T := TX0) (N := 11) (ws' := [(q, .inr (0, [.ref ro, .ref pa, .int kd, .int ds, .int en, .int pl, .int (nI h), .int gv, .int rp, .int 0, .int pl])), (ro, .inr (1, [.ref rb, .int sz])), (rb, .inl (cI, 64, .inl (cSetLo g (h + 1) ((x_8 <<< ((7 : Int32) &&& 31)) >>> ((7 : Int32) &&& 31)))))]) hx hb hts inX0 tyX0 tyX0_ok nmX0 hown hK hP hD hS 0 rfl rfl 9 (by decide) k_51 rfl (by decide +kernel) (rfl) (by first | rfl | decide) (Nat.le_of_ble_eq_true rfl) rfl dX0_stepX86_106 (fun H locs hP hD hS => ?_)
        refine lv_aload_n hx hb dX0_stepX86_109 rfl (lv_at hl 3 rfl) ?_
        refine lv_dup hx hb dX0_stepX86_110 rfl ?_
        refine va_get (D := D) (ci := 0) (v := .int rp) (C := RX0) (T := TX0) (N := 11) hx hb hts inX0 hown hK hP 0 rfl rfl 8 (by decide) k_48 (fun _ h9 => h9) rfl dX0_stepX86_111 ?_
        refine lv_iconst (v := 1) hx hb dX0_stepX86_114 (by decide) ?_
        refine lv_iadd hx hb dX0_stepX86_115 ?_
        refine kPut (D := D) (ci := 0) (v := .int (rp + 1)) (ty := .int) (C := RX0) (T := TX0) (N := 11) (ws' := [(q, .inr (0, [.ref ro, .ref pa, .int kd, .int ds, .int en, .int pl, .int (nI h), .int gv, .int (rp + 1), .int 0, .int pl])), (ro, .inr (1, [.ref rb, .int sz])), (rb, .inl (cI, 64, .inl (cSetLo g (h + 1) ((x_8 <<< ((7 : Int32) &&& 31)) >>> ((7 : Int32) &&& 31)))))]) hx hb hts inX0 tyX0 tyX0_ok nmX0 hown hK hP hD hS 0 rfl rfl 8 (by decide) k_48 rfl (by decide +kernel) (rfl) (by first | rfl | decide) (Nat.le_of_ble_eq_true rfl) rfl dX0_stepX86_116 (fun H locs hP hD hS => ?_)
        refine lv_iconst (v := 5) hx hb dX0_stepX86_119 (by decide) ?_
        subst e_8
        subst e_3
        subst e_1
        have e9 : cX86 en pl rp mk la h g = (5, rp + 1, 0, pl, cSetLo g (h + 1) (((cXt en (cAge mk (pl - la)) (cLo g (h + 1)) (pl + 5)) <<< ((7 : Int32) &&& 31)) >>> ((7 : Int32) &&& 31))) := (if_pos c_2).trans ((if_neg c_4).trans (if_neg c_6))
        exact hret _ _ _ _ _ dX0_stepX86_120 (by rw [e9]) (by rw [e9]; exact hP) (by rw [e9]; exact hD) hS
  · refine lv_iload_n hx hb dX0_stepX86_19 rfl (lv_at hl 0 rfl) ?_
    refine lv_sipush (v := 233) hx hb dX0_stepX86_20 (by decide) ?_
    refine lv_icmp_eq (tgt := 28) hx hb dX0_stepX86_23 (by decide) (fun c_9 => ?_) (fun c_9 => ?_)
    · refine lv_aload_n hx hb dX0_stepX86_28 rfl (lv_at hl 1 rfl) ?_
      refine kCallV (As := []) (wc := [(q, .inr (0, [.ref ro, .ref pa, .int kd, .int ds, .int en, .int pl, .int (nI h), .int gv, .int rp, .int mk, .int la]))]) (wr := [(ro, .inr (1, [.ref rb, .int sz])), (rb, .inl (cI, 64, .inl g))]) (ws' := [(q, .inr (0, [.ref ro, .ref pa, .int kd, .int ds, .int en, .int pl, .int (nI h), .int gv, .int rp, .int (cAge mk (pl - la)), .int pl])), (ro, .inr (1, [.ref rb, .int sz])), (rb, .inl (cI, 64, .inl g))]) (ci := 0) (C := RX0) ⟨hx, hb, hml, hown, hts⟩ (c_X0_ageMask l D cI cF cJ q ro pa kd ds en pl (nI h) gv rp mk la ) (cwV 0 hts gX0_stepX86_X0_ageMask rfl rfl rfl (by decide +kernel) ⟨Nat.le_of_ble_eq_true rfl, Nat.le_of_ble_eq_true rfl⟩) hK hP hD hS hA [0] [1, 2] [2, 0, 1] rfl rfl rfl rfl (by decide) rfl rfl rfl rfl rfl hl.1 (Nat.le_of_ble_eq_true rfl) ⟨Nat.zero_le _, Nat.zero_le _⟩ dX0_stepX86_29 (fun H locs hP hD hS => ?_) rfl
      refine lv_aload_n hx hb dX0_stepX86_32 rfl (lv_at hl 1 rfl) ?_
      refine va_get (D := D) (ci := 0) (v := .ref ro) (C := RX0) (T := TX0) (N := 11) hx hb hts inX0 hown hK hP 0 rfl rfl 0 (by decide) k_14 (fun _ h9 => h9) rfl dX0_stepX86_33 ?_
      refine lv_aload_n hx hb dX0_stepX86_36 rfl (lv_at hl 1 rfl) ?_
      refine va_get (D := D) (ci := 0) (v := .int (nI h)) (C := RX0) (T := TX0) (N := 11) hx hb hts inX0 hown hK hP 0 rfl rfl 6 (by decide) k_65 (fun _ h9 => h9) rfl dX0_stepX86_37 ?_
      refine lv_iconst (v := 4) hx hb dX0_stepX86_40 (by decide) ?_
      refine lv_iadd hx hb dX0_stepX86_41 ?_
      refine kTop (y := nI (h + 4)) (nI_add _ 4) ?_
      refine kCallI (As := [.int (nI (h + 4))]) (wc := [(ro, .inr (1, [.ref rb, .int sz])), (rb, .inl (cI, 64, .inl g))]) (wr := [(q, .inr (0, [.ref ro, .ref pa, .int kd, .int ds, .int en, .int pl, .int (nI h), .int gv, .int rp, .int (cAge mk (pl - la)), .int pl]))]) (ws' := [(q, .inr (0, [.ref ro, .ref pa, .int kd, .int ds, .int en, .int pl, .int (nI h), .int gv, .int rp, .int (cAge mk (pl - la)), .int pl])), (ro, .inr (1, [.ref rb, .int sz])), (rb, .inl (cI, 64, .inl g))]) (ci := 1) (C := RX1) ⟨hx, hb, hml, hown, hts⟩ (c_X1_at l D cI cF cJ ro rb 64 (h + 4) g sz (by omega) (by omega)) (cwV 1 hts gX0_stepX86_X1_at rfl rfl rfl (by decide +kernel) ⟨Nat.le_of_ble_eq_true rfl, Nat.le_of_ble_eq_true rfl⟩) hK hP hD hS hA [1, 2] [0] [0, 1, 2] rfl rfl rfl rfl (by decide) rfl rfl rfl rfl rfl hl.1 (Nat.le_of_ble_eq_true rfl) ⟨Nat.zero_le _, Nat.zero_le _⟩ dX0_stepX86_42 (fun H locs hP hD hS => ?_) rfl
      refine kCallS (As := [.int (g (h + 4))]) ⟨hx, hb, hml, hown, hts⟩ (c_X0_isSignByte l D cI cF cJ (g (h + 4)) ) (cwS 1 hts gX0_stepX86_X0_isSignByte rfl rfl rfl (by decide +kernel) ⟨Nat.le_of_ble_eq_true rfl, Nat.le_of_ble_eq_true rfl⟩) hK hP hD hS hA rfl hl.1 (Nat.le_of_ble_eq_true rfl) ⟨Nat.zero_le _, Nat.zero_le _⟩ dX0_stepX86_45 (fun H locs hP hD hS => ?_) rfl
      refine lv_topi (fun x_10 e_10 => ?_)
      refine lv_istore_n (lv' := [(2, .int x_10), (1, .int x_1), (0, .ref q)]) hx hb dX0_stepX86_48 rfl hl (by decide) rfl (fun ls hl => ?_)
      refine lv_iload_n hx hb dX0_stepX86_49 rfl (lv_at hl 0 rfl) ?_
      refine lv_if_eq (tgt := 121) hx hb dX0_stepX86_50 (by decide) (fun c_11 => ?_) (fun c_11 => ?_)
      · refine lv_aload_n hx hb dX0_stepX86_121 rfl (lv_at hl 2 rfl) ?_
        refine lv_dup hx hb dX0_stepX86_122 rfl ?_
        refine va_get (D := D) (ci := 0) (v := .int (cAge mk (pl - la))) (C := RX0) (T := TX0) (N := 11) hx hb hts inX0 hown hK hP 0 rfl rfl 9 (by decide) k_51 (fun _ h9 => h9) rfl dX0_stepX86_123 ?_
        refine lv_iload_n hx hb dX0_stepX86_126 rfl (lv_at hl 0 rfl) ?_
        refine lv_if_eq (tgt := 135) hx hb dX0_stepX86_127 (by decide) (fun c_12 => ?_) (fun c_12 => ?_)
        · refine lv_iconst (v := 1) hx hb dX0_stepX86_135 (by decide) ?_
          refine lv_ior hx hb dX0_stepX86_136 ?_
          refine kPut (D := D) (ci := 0) (v := .int ((cAge mk (pl - la)) ||| 1)) (ty := .int) (C := RX0) (T := TX0) (N := 11) (ws' := [(q, .inr (0, [.ref ro, .ref pa, .int kd, .int ds, .int en, .int pl, .int (nI h), .int gv, .int rp, .int ((cAge mk (pl - la)) ||| 1), .int pl])), (ro, .inr (1, [.ref rb, .int sz])), (rb, .inl (cI, 64, .inl g))]) hx hb hts inX0 tyX0 tyX0_ok nmX0 hown hK hP hD hS 0 rfl rfl 9 (by decide) k_51 rfl (by decide +kernel) (rfl) (by first | rfl | decide) (Nat.le_of_ble_eq_true rfl) rfl dX0_stepX86_137 (fun H locs hP hD hS => ?_)
          refine lv_iconst (v := 1) hx hb dX0_stepX86_140 (by decide) ?_
          subst e_10
          subst e_1
          have e9 : cX86 en pl rp mk la h g = (1, rp, (cAge mk (pl - la)) ||| 1, pl, g) := (if_neg c_2).trans ((if_pos c_9).trans (if_pos c_11))
          exact hret _ _ _ _ _ dX0_stepX86_141 (by rw [e9]) (by rw [e9]; exact hP) (by rw [e9]; exact hD) hS
        · exact absurd c_11 c_12
      · refine lv_aload_n hx hb dX0_stepX86_53 rfl (lv_at hl 2 rfl) ?_
        refine kCallI (As := []) (wc := [(q, .inr (0, [.ref ro, .ref pa, .int kd, .int ds, .int en, .int pl, .int (nI h), .int gv, .int rp, .int (cAge mk (pl - la)), .int pl]))]) (wr := [(ro, .inr (1, [.ref rb, .int sz])), (rb, .inl (cI, 64, .inl g))]) (ws' := [(q, .inr (0, [.ref ro, .ref pa, .int kd, .int ds, .int en, .int pl, .int (nI h), .int gv, .int rp, .int (cAge mk (pl - la)), .int pl])), (ro, .inr (1, [.ref rb, .int sz])), (rb, .inl (cI, 64, .inl g))]) (ci := 0) (C := RX0) ⟨hx, hb, hml, hown, hts⟩ (c_X0_maskAllows l D cI cF cJ q ro pa kd ds en pl (nI h) gv rp (cAge mk (pl - la)) pl ) (cwV 0 hts gX0_stepX86_X0_maskAllows rfl rfl rfl (by decide +kernel) ⟨Nat.le_of_ble_eq_true rfl, Nat.le_of_ble_eq_true rfl⟩) hK hP hD hS hA [0] [1, 2] [2, 0, 1] rfl rfl rfl rfl (by decide) rfl rfl rfl rfl rfl hl.1 (Nat.le_of_ble_eq_true rfl) ⟨Nat.zero_le _, Nat.zero_le _⟩ dX0_stepX86_54 (fun H locs hP hD hS => ?_) rfl
        refine lv_if_eq (tgt := 121) hx hb dX0_stepX86_57 (by decide) (fun c_13 => ?_) (fun c_13 => ?_)
        · refine lv_aload_n hx hb dX0_stepX86_121 rfl (lv_at hl 2 rfl) ?_
          refine lv_dup hx hb dX0_stepX86_122 rfl ?_
          refine va_get (D := D) (ci := 0) (v := .int (cAge mk (pl - la))) (C := RX0) (T := TX0) (N := 11) hx hb hts inX0 hown hK hP 0 rfl rfl 9 (by decide) k_51 (fun _ h9 => h9) rfl dX0_stepX86_123 ?_
          refine lv_iload_n hx hb dX0_stepX86_126 rfl (lv_at hl 0 rfl) ?_
          refine lv_if_eq (tgt := 135) hx hb dX0_stepX86_127 (by decide) (fun c_14 => ?_) (fun c_14 => ?_)
          · exact absurd c_14 c_11
          · refine lv_bipush (v := 17) hx hb dX0_stepX86_130 (by decide) ?_
            refine lv_goto (tgt := 136) hx hb dX0_stepX86_132 (by decide) ?_
            refine lv_ior hx hb dX0_stepX86_136 ?_
            refine kPut (D := D) (ci := 0) (v := .int ((cAge mk (pl - la)) ||| 17)) (ty := .int) (C := RX0) (T := TX0) (N := 11) (ws' := [(q, .inr (0, [.ref ro, .ref pa, .int kd, .int ds, .int en, .int pl, .int (nI h), .int gv, .int rp, .int ((cAge mk (pl - la)) ||| 17), .int pl])), (ro, .inr (1, [.ref rb, .int sz])), (rb, .inl (cI, 64, .inl g))]) hx hb hts inX0 tyX0 tyX0_ok nmX0 hown hK hP hD hS 0 rfl rfl 9 (by decide) k_51 rfl (by decide +kernel) (rfl) (by first | rfl | decide) (Nat.le_of_ble_eq_true rfl) rfl dX0_stepX86_137 (fun H locs hP hD hS => ?_)
            refine lv_iconst (v := 1) hx hb dX0_stepX86_140 (by decide) ?_
            subst e_10
            subst e_1
            have e9 : cX86 en pl rp mk la h g = (1, rp, (cAge mk (pl - la)) ||| 17, pl, g) := (if_neg c_2).trans ((if_pos c_9).trans ((if_neg c_11).trans (if_pos c_13)))
            exact hret _ _ _ _ _ dX0_stepX86_141 (by rw [e9]) (by rw [e9]; exact hP) (by rw [e9]; exact hD) hS
        · refine lv_aload_n hx hb dX0_stepX86_60 rfl (lv_at hl 2 rfl) ?_
          refine lv_aload_n hx hb dX0_stepX86_61 rfl (lv_at hl 2 rfl) ?_
          refine va_get (D := D) (ci := 0) (v := .ref ro) (C := RX0) (T := TX0) (N := 11) hx hb hts inX0 hown hK hP 0 rfl rfl 0 (by decide) k_14 (fun _ h9 => h9) rfl dX0_stepX86_62 ?_
          refine lv_aload_n hx hb dX0_stepX86_65 rfl (lv_at hl 2 rfl) ?_
          refine va_get (D := D) (ci := 0) (v := .int (nI h)) (C := RX0) (T := TX0) (N := 11) hx hb hts inX0 hown hK hP 0 rfl rfl 6 (by decide) k_65 (fun _ h9 => h9) rfl dX0_stepX86_66 ?_
          refine lv_iconst (v := 1) hx hb dX0_stepX86_69 (by decide) ?_
          refine lv_iadd hx hb dX0_stepX86_70 ?_
          refine kTop (y := nI (h + 1)) (nI_add _ 1) ?_
          refine kCallI (As := [.int (nI (h + 1))]) (wc := [(ro, .inr (1, [.ref rb, .int sz])), (rb, .inl (cI, 64, .inl g))]) (wr := [(q, .inr (0, [.ref ro, .ref pa, .int kd, .int ds, .int en, .int pl, .int (nI h), .int gv, .int rp, .int (cAge mk (pl - la)), .int pl]))]) (ws' := [(q, .inr (0, [.ref ro, .ref pa, .int kd, .int ds, .int en, .int pl, .int (nI h), .int gv, .int rp, .int (cAge mk (pl - la)), .int pl])), (ro, .inr (1, [.ref rb, .int sz])), (rb, .inl (cI, 64, .inl g))]) (ci := 1) (C := RX1) ⟨hx, hb, hml, hown, hts⟩ (c_X1_lowestFirst l D cI cF cJ ro rb 64 (h + 1) g sz (by omega) (by omega)) (cwV 1 hts gX0_stepX86_X1_lowestFirst rfl rfl rfl (by decide +kernel) ⟨Nat.le_of_ble_eq_true rfl, Nat.le_of_ble_eq_true rfl⟩) hK hP hD hS hA [1, 2] [0] [0, 1, 2] rfl rfl rfl rfl (by decide) rfl rfl rfl rfl rfl hl.1 (Nat.le_of_ble_eq_true rfl) ⟨Nat.zero_le _, Nat.zero_le _⟩ dX0_stepX86_71 (fun H locs hP hD hS => ?_) rfl
          refine lv_aload_n hx hb dX0_stepX86_74 rfl (lv_at hl 2 rfl) ?_
          refine va_get (D := D) (ci := 0) (v := .int pl) (C := RX0) (T := TX0) (N := 11) hx hb hts inX0 hown hK hP 0 rfl rfl 5 (by decide) k_42 (fun _ h9 => h9) rfl dX0_stepX86_75 ?_
          refine lv_iconst (v := 5) hx hb dX0_stepX86_78 (by decide) ?_
          refine lv_iadd hx hb dX0_stepX86_79 ?_
          refine kCallI (As := [.int (cLo g (h + 1)), .int (pl + 5)]) (wc := [(q, .inr (0, [.ref ro, .ref pa, .int kd, .int ds, .int en, .int pl, .int (nI h), .int gv, .int rp, .int (cAge mk (pl - la)), .int pl]))]) (wr := [(ro, .inr (1, [.ref rb, .int sz])), (rb, .inl (cI, 64, .inl g))]) (ws' := [(q, .inr (0, [.ref ro, .ref pa, .int kd, .int ds, .int en, .int pl, .int (nI h), .int gv, .int rp, .int (cAge mk (pl - la)), .int pl])), (ro, .inr (1, [.ref rb, .int sz])), (rb, .inl (cI, 64, .inl g))]) (ci := 0) (C := RX0) ⟨hx, hb, hml, hown, hts⟩ (c_X0_x86Target l D cI cF cJ q ro pa kd ds en pl (nI h) gv rp (cAge mk (pl - la)) pl (cLo g (h + 1)) (pl + 5) ) (cwV 2 hts gX0_stepX86_X0_x86Target rfl rfl rfl (by decide +kernel) ⟨Nat.le_of_ble_eq_true rfl, Nat.le_of_ble_eq_true rfl⟩) hK hP hD hS hA [0] [1, 2] [2, 0, 1] rfl rfl rfl rfl (by decide) rfl rfl rfl rfl rfl hl.1 (Nat.le_of_ble_eq_true rfl) ⟨Nat.zero_le _, Nat.zero_le _⟩ dX0_stepX86_80 (fun H locs hP hD hS => ?_) rfl
          refine lv_topi (fun x_15 e_15 => ?_)
          refine lv_istore_n (lv' := [(3, .int x_15), (2, .int x_10), (1, .int x_1), (0, .ref q)]) hx hb dX0_stepX86_83 rfl hl (by decide) rfl (fun ls hl => ?_)
          refine lv_aload_n hx hb dX0_stepX86_84 rfl (lv_at hl 3 rfl) ?_
          refine va_get (D := D) (ci := 0) (v := .ref ro) (C := RX0) (T := TX0) (N := 11) hx hb hts inX0 hown hK hP 0 rfl rfl 0 (by decide) k_14 (fun _ h9 => h9) rfl dX0_stepX86_85 ?_
          refine lv_aload_n hx hb dX0_stepX86_88 rfl (lv_at hl 3 rfl) ?_
          refine va_get (D := D) (ci := 0) (v := .int (nI h)) (C := RX0) (T := TX0) (N := 11) hx hb hts inX0 hown hK hP 0 rfl rfl 6 (by decide) k_65 (fun _ h9 => h9) rfl dX0_stepX86_89 ?_
          refine lv_iconst (v := 1) hx hb dX0_stepX86_92 (by decide) ?_
          refine lv_iadd hx hb dX0_stepX86_93 ?_
          refine kTop (y := nI (h + 1)) (nI_add _ 1) ?_
          refine lv_iload_n hx hb dX0_stepX86_94 rfl (lv_at hl 0 rfl) ?_
          refine lv_bipush (v := 7) hx hb dX0_stepX86_95 (by decide) ?_
          refine lv_ishl hx hb dX0_stepX86_97 ?_
          refine lv_bipush (v := 7) hx hb dX0_stepX86_98 (by decide) ?_
          refine lv_ishr hx hb dX0_stepX86_100 ?_
          refine kCallV (As := [.int (nI (h + 1)), .int ((x_15 <<< ((7 : Int32) &&& 31)) >>> ((7 : Int32) &&& 31))]) (wc := [(ro, .inr (1, [.ref rb, .int sz])), (rb, .inl (cI, 64, .inl g))]) (wr := [(q, .inr (0, [.ref ro, .ref pa, .int kd, .int ds, .int en, .int pl, .int (nI h), .int gv, .int rp, .int (cAge mk (pl - la)), .int pl]))]) (ws' := [(q, .inr (0, [.ref ro, .ref pa, .int kd, .int ds, .int en, .int pl, .int (nI h), .int gv, .int rp, .int (cAge mk (pl - la)), .int pl])), (ro, .inr (1, [.ref rb, .int sz])), (rb, .inl (cI, 64, .inl (cSetLo g (h + 1) ((x_15 <<< ((7 : Int32) &&& 31)) >>> ((7 : Int32) &&& 31)))))]) (ci := 1) (C := RX1) ⟨hx, hb, hml, hown, hts⟩ (c_X1_setLowestFirst l D cI cF cJ ro rb 64 (h + 1) g sz ((x_15 <<< ((7 : Int32) &&& 31)) >>> ((7 : Int32) &&& 31)) (by omega) (by omega)) (cwV 2 hts gX0_stepX86_X1_setLowestFirst rfl rfl rfl (by decide +kernel) ⟨Nat.le_of_ble_eq_true rfl, Nat.le_of_ble_eq_true rfl⟩) hK hP hD hS hA [1, 2] [0] [0, 1, 2] rfl rfl rfl rfl (by decide) rfl rfl rfl rfl rfl hl.1 (Nat.le_of_ble_eq_true rfl) ⟨Nat.zero_le _, Nat.zero_le _⟩ dX0_stepX86_101 (fun H locs hP hD hS => ?_) rfl
          refine lv_aload_n hx hb dX0_stepX86_104 rfl (lv_at hl 3 rfl) ?_
          refine lv_iconst (v := 0) hx hb dX0_stepX86_105 (by decide) ?_
          refine kPut (D := D) (ci := 0) (v := .int 0) (ty := .int) (C := RX0) (T := TX0) (N := 11) (ws' := [(q, .inr (0, [.ref ro, .ref pa, .int kd, .int ds, .int en, .int pl, .int (nI h), .int gv, .int rp, .int 0, .int pl])), (ro, .inr (1, [.ref rb, .int sz])), (rb, .inl (cI, 64, .inl (cSetLo g (h + 1) ((x_15 <<< ((7 : Int32) &&& 31)) >>> ((7 : Int32) &&& 31)))))]) hx hb hts inX0 tyX0 tyX0_ok nmX0 hown hK hP hD hS 0 rfl rfl 9 (by decide) k_51 rfl (by decide +kernel) (rfl) (by first | rfl | decide) (Nat.le_of_ble_eq_true rfl) rfl dX0_stepX86_106 (fun H locs hP hD hS => ?_)
          refine lv_aload_n hx hb dX0_stepX86_109 rfl (lv_at hl 3 rfl) ?_
          refine lv_dup hx hb dX0_stepX86_110 rfl ?_
          refine va_get (D := D) (ci := 0) (v := .int rp) (C := RX0) (T := TX0) (N := 11) hx hb hts inX0 hown hK hP 0 rfl rfl 8 (by decide) k_48 (fun _ h9 => h9) rfl dX0_stepX86_111 ?_
          refine lv_iconst (v := 1) hx hb dX0_stepX86_114 (by decide) ?_
          refine lv_iadd hx hb dX0_stepX86_115 ?_
          refine kPut (D := D) (ci := 0) (v := .int (rp + 1)) (ty := .int) (C := RX0) (T := TX0) (N := 11) (ws' := [(q, .inr (0, [.ref ro, .ref pa, .int kd, .int ds, .int en, .int pl, .int (nI h), .int gv, .int (rp + 1), .int 0, .int pl])), (ro, .inr (1, [.ref rb, .int sz])), (rb, .inl (cI, 64, .inl (cSetLo g (h + 1) ((x_15 <<< ((7 : Int32) &&& 31)) >>> ((7 : Int32) &&& 31)))))]) hx hb hts inX0 tyX0 tyX0_ok nmX0 hown hK hP hD hS 0 rfl rfl 8 (by decide) k_48 rfl (by decide +kernel) (rfl) (by first | rfl | decide) (Nat.le_of_ble_eq_true rfl) rfl dX0_stepX86_116 (fun H locs hP hD hS => ?_)
          refine lv_iconst (v := 5) hx hb dX0_stepX86_119 (by decide) ?_
          subst e_15
          subst e_10
          subst e_1
          have e9 : cX86 en pl rp mk la h g = (5, rp + 1, 0, pl, cSetLo g (h + 1) (((cXt en (cAge mk (pl - la)) (cLo g (h + 1)) (pl + 5)) <<< ((7 : Int32) &&& 31)) >>> ((7 : Int32) &&& 31))) := (if_neg c_2).trans ((if_pos c_9).trans ((if_neg c_11).trans (if_neg c_13)))
          exact hret _ _ _ _ _ dX0_stepX86_120 (by rw [e9]) (by rw [e9]; exact hP) (by rw [e9]; exact hD) hS
    · refine lv_iconst (v := 1) hx hb dX0_stepX86_26 (by decide) ?_
      subst e_1
      have e9 : cX86 en pl rp mk la h g = (1, rp, mk, la, g) := (if_neg c_2).trans (if_neg c_9)
      exact hret _ _ _ _ _ dX0_stepX86_27 (by rw [e9]) (by rw [e9]; exact hP) (by rw [e9]; exact hD) hS
