/-! BranchFilters$Filter: the steps -/

def cMd (en : Int32) (x : Int32) (y : Int32) : Int32 := (if en = 0 then (x - y) else (x + y))

set_option maxHeartbeats 4000000 in
set_option maxRecDepth 100000 in
/-- Filter.moved(x, y) -/
theorem c_X0_moved (l : Launch) (D : va_G) (cI cF cJ : ClassId) (q ro pa : Nat) (kd ds en pl he gv rp mk la : Int32) (x y : Int32)  : kI l yX0_moved wsX0_moved ({ frames := 0, cells := 0, slots := 0, locals := 0 }) D (kTy cI cF cJ) [.ref q, .int x, .int y] [(q, .inr (0, [.ref ro, .ref pa, .int kd, .int ds, .int en, .int pl, .int he, .int gv, .int rp, .int mk, .int la]))] [(q, .inr (0, [.ref ro, .ref pa, .int kd, .int ds, .int en, .int pl, .int he, .int gv, .int rp, .int mk, .int la]))] (cMd en x y) := by
  refine kI_of (cc := cX0_moved) (nL := 3) (ty := .int) (own := RX0) (lv := [(0, .ref q), (1, .int x), (2, .int y)]) (by decide) rfl rfl (Nat.le_of_ble_eq_true rfl) rfl (rfl) ?_
  intro p e s m args below meth c A ls Q C hA hK hP hD hS hl hret
  obtain ⟨hx, hb, hr, hml, hown, hts, hlocks⟩ := C
  have k_38 := hts (.fieldLink RX0 38 "BranchFilters$Filter" "encoding" "Z") (by decide +kernel)
  have inX0 : ∀ w ∈ wsX00, w ∈ wsX0_moved := by decide +kernel
  refine lv_aload_n hx hb dX0_moved_0 rfl (lv_at hl 0 rfl) ?_
  refine va_get (D := D) (ci := 0) (v := .int en) (C := RX0) (T := TX0) (N := 11) hx hb hts inX0 hown hK hP 0 rfl rfl 4 (by decide) k_38 (fun _ h9 => h9) rfl dX0_moved_1 ?_
  refine lv_if_eq (tgt := 13) hx hb dX0_moved_4 (by decide) (fun c_1 => ?_) (fun c_1 => ?_)
  · refine lv_iload_n hx hb dX0_moved_13 rfl (lv_at hl 1 rfl) ?_
    refine lv_iload_n hx hb dX0_moved_14 rfl (lv_at hl 2 rfl) ?_
    refine lv_isub hx hb dX0_moved_15 ?_
    have e9 : cMd en x y = (x - y) := if_pos c_1
    exact hret _ _ _ _ _ dX0_moved_16 (by rw [e9]) (hP) (hD) hS
  · refine lv_iload_n hx hb dX0_moved_7 rfl (lv_at hl 1 rfl) ?_
    refine lv_iload_n hx hb dX0_moved_8 rfl (lv_at hl 2 rfl) ?_
    refine lv_iadd hx hb dX0_moved_9 ?_
    refine lv_goto (tgt := 16) hx hb dX0_moved_10 (by decide) ?_
    have e9 : cMd en x y = (x + y) := if_neg c_1
    exact hret _ _ _ _ _ dX0_moved_16 (by rw [e9]) (hP) (hD) hS

def cSg (v : Int32) : Int32 := (if v = 0 then 1 else (if v = 255 then 1 else 0))

set_option maxHeartbeats 4000000 in
set_option maxRecDepth 100000 in
/-- Filter.isSignByte(v) -/
theorem c_X0_isSignByte (l : Launch) (D : va_G) (cI cF cJ : ClassId) (v : Int32)  : kI l yX0_isSignByte wsX0_isSignByte ({ frames := 0, cells := 0, slots := 0, locals := 0 }) D (kTy cI cF cJ) [.int v] [] [] (cSg v) := by
  refine kI_of (cc := cX0_isSignByte) (nL := 1) (ty := .boolean) (own := RX0) (lv := [(0, .int v)]) (by decide) rfl rfl (Nat.le_of_ble_eq_true rfl) rfl (by unfold cSg; repeat (first | rfl | split)) ?_
  intro p e s m args below meth c A ls Q C hA hK hP hD hS hl hret
  obtain ⟨hx, hb, hr, hml, hown, hts, hlocks⟩ := C
  refine lv_iload_n hx hb dX0_isSignByte_0 rfl (lv_at hl 0 rfl) ?_
  refine lv_if_eq (tgt := 11) hx hb dX0_isSignByte_1 (by decide) (fun c_1 => ?_) (fun c_1 => ?_)
  · refine lv_iconst (v := 1) hx hb dX0_isSignByte_11 (by decide) ?_
    refine lv_goto (tgt := 16) hx hb dX0_isSignByte_12 (by decide) ?_
    have e9 : cSg v = 1 := if_pos c_1
    exact hret _ _ _ _ _ dX0_isSignByte_16 (by rw [e9]) (hP) (hD) hS
  · refine lv_iload_n hx hb dX0_isSignByte_4 rfl (lv_at hl 0 rfl) ?_
    refine lv_sipush (v := 255) hx hb dX0_isSignByte_5 (by decide) ?_
    refine lv_icmp_ne (tgt := 15) hx hb dX0_isSignByte_8 (by decide) (fun c_2 => ?_) (fun c_2 => ?_)
    · refine lv_iconst (v := 0) hx hb dX0_isSignByte_15 (by decide) ?_
      have e9 : cSg v = 0 := (if_neg c_1).trans (if_neg c_2)
      exact hret _ _ _ _ _ dX0_isSignByte_16 (by rw [e9]) (hP) (hD) hS
    · refine lv_iconst (v := 1) hx hb dX0_isSignByte_11 (by decide) ?_
      refine lv_goto (tgt := 16) hx hb dX0_isSignByte_12 (by decide) ?_
      have e9 : cSg v = 1 := (if_neg c_1).trans (if_pos c_2)
      exact hret _ _ _ _ _ dX0_isSignByte_16 (by rw [e9]) (hP) (hD) hS

def cAl (mk : Int32) : Int32 := (if 16 ≤ (mk / 2) then 0 else (if ((mk / 2) - (mk / 2) / 8 * 8) ≤ 2 then 1 else (if ((mk / 2) - (mk / 2) / 8 * 8) = 4 then 1 else 0)))

set_option maxHeartbeats 4000000 in
set_option maxRecDepth 100000 in
/-- Filter.maskAllows() -/
theorem c_X0_maskAllows (l : Launch) (D : va_G) (cI cF cJ : ClassId) (q ro pa : Nat) (kd ds en pl he gv rp mk la : Int32)  : kI l yX0_maskAllows wsX0_maskAllows ({ frames := 0, cells := 0, slots := 0, locals := 0 }) D (kTy cI cF cJ) [.ref q] [(q, .inr (0, [.ref ro, .ref pa, .int kd, .int ds, .int en, .int pl, .int he, .int gv, .int rp, .int mk, .int la]))] [(q, .inr (0, [.ref ro, .ref pa, .int kd, .int ds, .int en, .int pl, .int he, .int gv, .int rp, .int mk, .int la]))] (cAl mk) := by
  refine kI_of (cc := cX0_maskAllows) (nL := 3) (ty := .boolean) (own := RX0) (lv := [(0, .ref q)]) (by decide) rfl rfl (Nat.le_of_ble_eq_true rfl) rfl (by unfold cAl; repeat (first | rfl | split)) ?_
  intro p e s m args below meth c A ls Q C hA hK hP hD hS hl hret
  obtain ⟨hx, hb, hr, hml, hown, hts, hlocks⟩ := C
  have k_51 := hts (.fieldLink RX0 51 "BranchFilters$Filter" "mask" "I") (by decide +kernel)
  have inX0 : ∀ w ∈ wsX00, w ∈ wsX0_maskAllows := by decide +kernel
  refine lv_aload_n hx hb dX0_maskAllows_0 rfl (lv_at hl 0 rfl) ?_
  refine va_get (D := D) (ci := 0) (v := .int mk) (C := RX0) (T := TX0) (N := 11) hx hb hts inX0 hown hK hP 0 rfl rfl 9 (by decide) k_51 (fun _ h9 => h9) rfl dX0_maskAllows_1 ?_
  refine lv_iconst (v := 2) hx hb dX0_maskAllows_4 (by decide) ?_
  refine lv_idiv hx hb dX0_maskAllows_5 (by decide) ?_
  refine lv_topi (fun x_1 e_1 => ?_)
  refine lv_istore_n (lv' := [(1, .int x_1), (0, .ref q)]) hx hb dX0_maskAllows_6 rfl hl (by decide) rfl (fun ls hl => ?_)
  refine lv_iload_n hx hb dX0_maskAllows_7 rfl (lv_at hl 0 rfl) ?_
  refine lv_bipush (v := 8) hx hb dX0_maskAllows_8 (by decide) ?_
  refine lv_irem hx hb dX0_maskAllows_10 (by decide) ?_
  refine lv_topi (fun x_2 e_2 => ?_)
  refine lv_istore_n (lv' := [(2, .int x_2), (1, .int x_1), (0, .ref q)]) hx hb dX0_maskAllows_11 rfl hl (by decide) rfl (fun ls hl => ?_)
  refine lv_iload_n hx hb dX0_maskAllows_12 rfl (lv_at hl 1 rfl) ?_
  refine lv_bipush (v := 16) hx hb dX0_maskAllows_13 (by decide) ?_
  refine lv_icmp_ge (tgt := 32) hx hb dX0_maskAllows_15 (by decide) (fun c_3 => ?_) (fun c_3 => ?_)
  · refine lv_iconst (v := 0) hx hb dX0_maskAllows_32 (by decide) ?_
    subst e_2
    subst e_1
    have e9 : cAl mk = 0 := if_pos c_3
    exact hret _ _ _ _ _ dX0_maskAllows_33 (by rw [e9]) (hP) (hD) hS
  · refine lv_iload_n hx hb dX0_maskAllows_18 rfl (lv_at hl 0 rfl) ?_
    refine lv_iconst (v := 2) hx hb dX0_maskAllows_19 (by decide) ?_
    refine lv_icmp_le (tgt := 28) hx hb dX0_maskAllows_20 (by decide) (fun c_4 => ?_) (fun c_4 => ?_)
    · refine lv_iconst (v := 1) hx hb dX0_maskAllows_28 (by decide) ?_
      refine lv_goto (tgt := 33) hx hb dX0_maskAllows_29 (by decide) ?_
      subst e_2
      subst e_1
      have e9 : cAl mk = 1 := (if_neg c_3).trans (if_pos c_4)
      exact hret _ _ _ _ _ dX0_maskAllows_33 (by rw [e9]) (hP) (hD) hS
    · refine lv_iload_n hx hb dX0_maskAllows_23 rfl (lv_at hl 0 rfl) ?_
      refine lv_iconst (v := 4) hx hb dX0_maskAllows_24 (by decide) ?_
      refine lv_icmp_ne (tgt := 32) hx hb dX0_maskAllows_25 (by decide) (fun c_5 => ?_) (fun c_5 => ?_)
      · refine lv_iconst (v := 0) hx hb dX0_maskAllows_32 (by decide) ?_
        subst e_2
        subst e_1
        have e9 : cAl mk = 0 := (if_neg c_3).trans ((if_neg c_4).trans (if_neg c_5))
        exact hret _ _ _ _ _ dX0_maskAllows_33 (by rw [e9]) (hP) (hD) hS
      · refine lv_iconst (v := 1) hx hb dX0_maskAllows_28 (by decide) ?_
        refine lv_goto (tgt := 33) hx hb dX0_maskAllows_29 (by decide) ?_
        subst e_2
        subst e_1
        have e9 : cAl mk = 1 := (if_neg c_3).trans ((if_neg c_4).trans (if_pos c_5))
        exact hret _ _ _ _ _ dX0_maskAllows_33 (by rw [e9]) (hP) (hD) hS

set_option maxHeartbeats 4000000 in
set_option maxRecDepth 100000 in
/-- Filter.become(x, y) -/
theorem c_X0_become (l : Launch) (D : va_G) (cI cF cJ : ClassId) (q ro pa : Nat) (kd ds en pl he gv rp mk la : Int32) (x y : Int32)  : kV l yX0_become wsX0_become ({ frames := 0, cells := 0, slots := 0, locals := 0 }) D (kTy cI cF cJ) [.ref q, .int x, .int y] [(q, .inr (0, [.ref ro, .ref pa, .int kd, .int ds, .int en, .int pl, .int he, .int gv, .int rp, .int mk, .int la]))] [(q, .inr (0, [.ref ro, .ref pa, .int x, .int y, .int en, .int pl, .int he, .int gv, .int rp, .int mk, .int la]))] := by
  refine kV_of (cc := cX0_become) (nL := 3) (own := RX0) (lv := [(0, .ref q), (1, .int x), (2, .int y)]) (by decide) rfl rfl (Nat.le_of_ble_eq_true rfl) rfl ?_
  intro p e s m args below meth c A ls Q C hA hK hP hD hS hl hret
  obtain ⟨hx, hb, hr, hml, hown, hts, hlocks⟩ := C
  have k_24 := hts (.fieldLink RX0 24 "BranchFilters$Filter" "distance" "I") (by decide +kernel)
  have k_32 := hts (.fieldLink RX0 32 "BranchFilters$Filter" "kind" "I") (by decide +kernel)
  have inX0 : ∀ w ∈ wsX00, w ∈ wsX0_become := by decide +kernel
  refine lv_aload_n hx hb dX0_become_0 rfl (lv_at hl 0 rfl) ?_
  refine lv_iload_n hx hb dX0_become_1 rfl (lv_at hl 1 rfl) ?_
  refine kPut (D := D) (ci := 0) (v := .int x) (ty := .int) (C := RX0) (T := TX0) (N := 11) (ws' := [(q, .inr (0, [.ref ro, .ref pa, .int x, .int ds, .int en, .int pl, .int he, .int gv, .int rp, .int mk, .int la]))]) hx hb hts inX0 tyX0 tyX0_ok nmX0 hown hK hP hD hS 0 rfl rfl 2 (by decide) k_32 rfl (by decide +kernel) (rfl) (by first | rfl | decide) (Nat.le_of_ble_eq_true rfl) rfl dX0_become_2 (fun H locs hP hD hS => ?_)
  refine lv_aload_n hx hb dX0_become_5 rfl (lv_at hl 0 rfl) ?_
  refine lv_iload_n hx hb dX0_become_6 rfl (lv_at hl 2 rfl) ?_
  refine kPut (D := D) (ci := 0) (v := .int y) (ty := .int) (C := RX0) (T := TX0) (N := 11) (ws' := [(q, .inr (0, [.ref ro, .ref pa, .int x, .int y, .int en, .int pl, .int he, .int gv, .int rp, .int mk, .int la]))]) hx hb hts inX0 tyX0 tyX0_ok nmX0 hown hK hP hD hS 0 rfl rfl 3 (by decide) k_24 rfl (by decide +kernel) (rfl) (by first | rfl | decide) (Nat.le_of_ble_eq_true rfl) rfl dX0_become_7 (fun H locs hP hD hS => ?_)
  exact hret _ _ _ _ dX0_become_10 (hP) (hD) hS

def cArm (en : Int32) (pl : Int32) (rp : Int32) (h : Nat) (g : Nat → Int32) : Int32 × Int32 × (Nat → Int32) := (if kU (cLo g h) 24 = 235 then (4, rp + 1, cSetLo g h ((-352321536) ||| ((kU (cMd en (4 * ((cLo g h) &&& 16777215)) (pl + 8)) 2) &&& 16777215))) else (4, rp, g))

set_option maxHeartbeats 4000000 in
set_option maxRecDepth 100000 in
/-- Filter.stepArm() -/
theorem c_X0_stepArm (l : Launch) (D : va_G) (cI cF cJ : ClassId) (q ro pa rb h : Nat) (kd ds en pl gv rp mk la sz : Int32) (g : Nat → Int32) (hk : h + 3 < 64) : kI l yX0_stepArm wsX0_stepArm ({ frames := 1, cells := 0, slots := 0, locals := 22 }) D (kTy cI cF cJ) [.ref q] [(q, .inr (0, [.ref ro, .ref pa, .int kd, .int ds, .int en, .int pl, .int (nI h), .int gv, .int rp, .int mk, .int la])), (ro, .inr (1, [.ref rb, .int sz])), (rb, .inl (cI, 64, .inl g))] [(q, .inr (0, [.ref ro, .ref pa, .int kd, .int ds, .int en, .int pl, .int (nI h), .int gv, .int ((cArm en pl rp h g).2.1), .int mk, .int la])), (ro, .inr (1, [.ref rb, .int sz])), (rb, .inl (cI, 64, .inl ((cArm en pl rp h g).2.2)))] ((cArm en pl rp h g).1) := by
  refine kI_of (cc := cX0_stepArm) (nL := 4) (ty := .int) (own := RX0) (lv := [(0, .ref q)]) (by decide) rfl rfl (Nat.le_of_ble_eq_true rfl) rfl (rfl) ?_
  intro p e s m args below meth c A ls Q C hA hK hP hD hS hl hret
  obtain ⟨hx, hb, hr, hml, hown, hts, hlocks⟩ := C
  have k_110 := hts (.constant RX0 110 (16777215)) (by decide +kernel)
  have k_111 := hts (.constant RX0 111 (-352321536)) (by decide +kernel)
  have k_14 := hts (.fieldLink RX0 14 "BranchFilters$Filter" "held" "LBranchFilters$Row;") (by decide +kernel)
  have k_42 := hts (.fieldLink RX0 42 "BranchFilters$Filter" "place" "I") (by decide +kernel)
  have k_48 := hts (.fieldLink RX0 48 "BranchFilters$Filter" "replaced" "I") (by decide +kernel)
  have k_65 := hts (.fieldLink RX0 65 "BranchFilters$Filter" "here" "I") (by decide +kernel)
  have inX0 : ∀ w ∈ wsX00, w ∈ wsX0_stepArm := by decide +kernel
  refine lv_aload_n hx hb dX0_stepArm_0 rfl (lv_at hl 0 rfl) ?_
  refine va_get (D := D) (ci := 0) (v := .ref ro) (C := RX0) (T := TX0) (N := 11) hx hb hts inX0 hown hK hP 0 rfl rfl 0 (by decide) k_14 (fun _ h9 => h9) rfl dX0_stepArm_1 ?_
  refine lv_aload_n hx hb dX0_stepArm_4 rfl (lv_at hl 0 rfl) ?_
  refine va_get (D := D) (ci := 0) (v := .int (nI h)) (C := RX0) (T := TX0) (N := 11) hx hb hts inX0 hown hK hP 0 rfl rfl 6 (by decide) k_65 (fun _ h9 => h9) rfl dX0_stepArm_5 ?_
  refine kCallI (As := [.int (nI h)]) (wc := [(ro, .inr (1, [.ref rb, .int sz])), (rb, .inl (cI, 64, .inl g))]) (wr := [(q, .inr (0, [.ref ro, .ref pa, .int kd, .int ds, .int en, .int pl, .int (nI h), .int gv, .int rp, .int mk, .int la]))]) (ws' := [(q, .inr (0, [.ref ro, .ref pa, .int kd, .int ds, .int en, .int pl, .int (nI h), .int gv, .int rp, .int mk, .int la])), (ro, .inr (1, [.ref rb, .int sz])), (rb, .inl (cI, 64, .inl g))]) (ci := 1) (C := RX1) ⟨hx, hb, hml, hown, hts⟩ (c_X1_lowestFirst l D cI cF cJ ro rb 64 h g sz (by omega) (by omega)) (cwV 1 hts gX0_stepArm_X1_lowestFirst rfl rfl rfl (by decide +kernel) ⟨Nat.le_of_ble_eq_true rfl, Nat.le_of_ble_eq_true rfl⟩) hK hP hD hS hA [1, 2] [0] [0, 1, 2] rfl rfl rfl rfl (by decide) rfl rfl rfl rfl rfl hl.1 (Nat.le_of_ble_eq_true rfl) ⟨Nat.zero_le _, Nat.zero_le _⟩ dX0_stepArm_8 (fun H locs hP hD hS => ?_) rfl
  refine lv_topi (fun x_1 e_1 => ?_)
  refine lv_istore_n (lv' := [(1, .int x_1), (0, .ref q)]) hx hb dX0_stepArm_11 rfl hl (by decide) rfl (fun ls hl => ?_)
  refine lv_iload_n hx hb dX0_stepArm_12 rfl (lv_at hl 0 rfl) ?_
  refine lv_bipush (v := 24) hx hb dX0_stepArm_13 (by decide) ?_
  refine lv_iushr (v := (kU x_1 24)) hx hb dX0_stepArm_15 rfl ?_
  refine lv_sipush (v := 235) hx hb dX0_stepArm_16 (by decide) ?_
  refine lv_icmp_ne (tgt := 72) hx hb dX0_stepArm_19 (by decide) (fun c_2 => ?_) (fun c_2 => ?_)
  · refine lv_iconst (v := 4) hx hb dX0_stepArm_72 (by decide) ?_
    subst e_1
    have e9 : cArm en pl rp h g = (4, rp, g) := if_neg c_2
    exact hret _ _ _ _ _ dX0_stepArm_73 (by rw [e9]) (by rw [e9]; exact hP) (by rw [e9]; exact hD) hS
  · refine lv_iload_n hx hb dX0_stepArm_22 rfl (lv_at hl 0 rfl) ?_
    refine lv_ldc (v := 16777215) hx hb hown k_110 dX0_stepArm_23 ?_
    refine lv_iand hx hb dX0_stepArm_25 ?_
    refine lv_topi (fun x_3 e_3 => ?_)
    refine lv_istore_n (lv' := [(2, .int x_3), (1, .int x_1), (0, .ref q)]) hx hb dX0_stepArm_26 rfl hl (by decide) rfl (fun ls hl => ?_)
    refine lv_aload_n hx hb dX0_stepArm_27 rfl (lv_at hl 2 rfl) ?_
    refine lv_iconst (v := 4) hx hb dX0_stepArm_28 (by decide) ?_
    refine lv_iload_n hx hb dX0_stepArm_29 rfl (lv_at hl 0 rfl) ?_
    refine lv_imul hx hb dX0_stepArm_30 ?_
    refine lv_aload_n hx hb dX0_stepArm_31 rfl (lv_at hl 2 rfl) ?_
    refine va_get (D := D) (ci := 0) (v := .int pl) (C := RX0) (T := TX0) (N := 11) hx hb hts inX0 hown hK hP 0 rfl rfl 5 (by decide) k_42 (fun _ h9 => h9) rfl dX0_stepArm_32 ?_
    refine lv_bipush (v := 8) hx hb dX0_stepArm_35 (by decide) ?_
    refine lv_iadd hx hb dX0_stepArm_37 ?_
    refine kCallI (As := [.int (4 * x_3), .int (pl + 8)]) (wc := [(q, .inr (0, [.ref ro, .ref pa, .int kd, .int ds, .int en, .int pl, .int (nI h), .int gv, .int rp, .int mk, .int la]))]) (wr := [(ro, .inr (1, [.ref rb, .int sz])), (rb, .inl (cI, 64, .inl g))]) (ws' := [(q, .inr (0, [.ref ro, .ref pa, .int kd, .int ds, .int en, .int pl, .int (nI h), .int gv, .int rp, .int mk, .int la])), (ro, .inr (1, [.ref rb, .int sz])), (rb, .inl (cI, 64, .inl g))]) (ci := 0) (C := RX0) ⟨hx, hb, hml, hown, hts⟩ (c_X0_moved l D cI cF cJ q ro pa kd ds en pl (nI h) gv rp mk la (4 * x_3) (pl + 8) ) (cwV 2 hts gX0_stepArm_X0_moved rfl rfl rfl (by decide +kernel) ⟨Nat.le_of_ble_eq_true rfl, Nat.le_of_ble_eq_true rfl⟩) hK hP hD hS hA [0] [1, 2] [2, 0, 1] rfl rfl rfl rfl (by decide) rfl rfl rfl rfl rfl hl.1 (Nat.le_of_ble_eq_true rfl) ⟨Nat.zero_le _, Nat.zero_le _⟩ dX0_stepArm_38 (fun H locs hP hD hS => ?_) rfl
    refine lv_iconst (v := 2) hx hb dX0_stepArm_41 (by decide) ?_
    refine lv_iushr (v := (kU (cMd en (4 * x_3) (pl + 8)) 2)) hx hb dX0_stepArm_42 rfl ?_
    refine lv_topi (fun x_4 e_4 => ?_)
    refine lv_istore_n (lv' := [(3, .int x_4), (2, .int x_3), (1, .int x_1), (0, .ref q)]) hx hb dX0_stepArm_43 rfl hl (by decide) rfl (fun ls hl => ?_)
    refine lv_aload_n hx hb dX0_stepArm_44 rfl (lv_at hl 3 rfl) ?_
    refine va_get (D := D) (ci := 0) (v := .ref ro) (C := RX0) (T := TX0) (N := 11) hx hb hts inX0 hown hK hP 0 rfl rfl 0 (by decide) k_14 (fun _ h9 => h9) rfl dX0_stepArm_45 ?_
    refine lv_aload_n hx hb dX0_stepArm_48 rfl (lv_at hl 3 rfl) ?_
    refine va_get (D := D) (ci := 0) (v := .int (nI h)) (C := RX0) (T := TX0) (N := 11) hx hb hts inX0 hown hK hP 0 rfl rfl 6 (by decide) k_65 (fun _ h9 => h9) rfl dX0_stepArm_49 ?_
    refine lv_ldc (v := (-352321536)) hx hb hown k_111 dX0_stepArm_52 ?_
    refine lv_iload_n hx hb dX0_stepArm_54 rfl (lv_at hl 0 rfl) ?_
    refine lv_ldc (v := 16777215) hx hb hown k_110 dX0_stepArm_55 ?_
    refine lv_iand hx hb dX0_stepArm_57 ?_
    refine lv_ior hx hb dX0_stepArm_58 ?_
    refine kCallV (As := [.int (nI h), .int ((-352321536) ||| (x_4 &&& 16777215))]) (wc := [(ro, .inr (1, [.ref rb, .int sz])), (rb, .inl (cI, 64, .inl g))]) (wr := [(q, .inr (0, [.ref ro, .ref pa, .int kd, .int ds, .int en, .int pl, .int (nI h), .int gv, .int rp, .int mk, .int la]))]) (ws' := [(q, .inr (0, [.ref ro, .ref pa, .int kd, .int ds, .int en, .int pl, .int (nI h), .int gv, .int rp, .int mk, .int la])), (ro, .inr (1, [.ref rb, .int sz])), (rb, .inl (cI, 64, .inl (cSetLo g h ((-352321536) ||| (x_4 &&& 16777215)))))]) (ci := 1) (C := RX1) ⟨hx, hb, hml, hown, hts⟩ (c_X1_setLowestFirst l D cI cF cJ ro rb 64 h g sz ((-352321536) ||| (x_4 &&& 16777215)) (by omega) (by omega)) (cwV 2 hts gX0_stepArm_X1_setLowestFirst rfl rfl rfl (by decide +kernel) ⟨Nat.le_of_ble_eq_true rfl, Nat.le_of_ble_eq_true rfl⟩) hK hP hD hS hA [1, 2] [0] [0, 1, 2] rfl rfl rfl rfl (by decide) rfl rfl rfl rfl rfl hl.1 (Nat.le_of_ble_eq_true rfl) ⟨Nat.zero_le _, Nat.zero_le _⟩ dX0_stepArm_59 (fun H locs hP hD hS => ?_) rfl
    refine lv_aload_n hx hb dX0_stepArm_62 rfl (lv_at hl 3 rfl) ?_
    refine lv_dup hx hb dX0_stepArm_63 rfl ?_
    refine va_get (D := D) (ci := 0) (v := .int rp) (C := RX0) (T := TX0) (N := 11) hx hb hts inX0 hown hK hP 0 rfl rfl 8 (by decide) k_48 (fun _ h9 => h9) rfl dX0_stepArm_64 ?_
    refine lv_iconst (v := 1) hx hb dX0_stepArm_67 (by decide) ?_
    refine lv_iadd hx hb dX0_stepArm_68 ?_
    refine kPut (D := D) (ci := 0) (v := .int (rp + 1)) (ty := .int) (C := RX0) (T := TX0) (N := 11) (ws' := [(q, .inr (0, [.ref ro, .ref pa, .int kd, .int ds, .int en, .int pl, .int (nI h), .int gv, .int (rp + 1), .int mk, .int la])), (ro, .inr (1, [.ref rb, .int sz])), (rb, .inl (cI, 64, .inl (cSetLo g h ((-352321536) ||| (x_4 &&& 16777215)))))]) hx hb hts inX0 tyX0 tyX0_ok nmX0 hown hK hP hD hS 0 rfl rfl 8 (by decide) k_48 rfl (by decide +kernel) (rfl) (by first | rfl | decide) (Nat.le_of_ble_eq_true rfl) rfl dX0_stepArm_69 (fun H locs hP hD hS => ?_)
    refine lv_iconst (v := 4) hx hb dX0_stepArm_72 (by decide) ?_
    subst e_4
    subst e_3
    subst e_1
    have e9 : cArm en pl rp h g = (4, rp + 1, cSetLo g h ((-352321536) ||| ((kU (cMd en (4 * ((cLo g h) &&& 16777215)) (pl + 8)) 2) &&& 16777215))) := if_pos c_2
    exact hret _ _ _ _ _ dX0_stepArm_73 (by rw [e9]) (by rw [e9]; exact hP) (by rw [e9]; exact hD) hS

def cThumb (en : Int32) (pl : Int32) (rp : Int32) (h : Nat) (g : Nat → Int32) : Int32 × Int32 × (Nat → Int32) := (if kU (g (h + 1)) 3 = 30 then (if kU (g (h + 3)) 3 = 31 then (4, rp + 1, upd (upd (upd (upd g h ((kU (kU (cMd en (2 * ((((((g (h + 1)) &&& 7) <<< ((19 : Int32) &&& 31)) ||| ((g h) <<< ((11 : Int32) &&& 31))) ||| (((g (h + 3)) &&& 7) <<< ((8 : Int32) &&& 31))) ||| (g (h + 2)))) (pl + 4)) 1) 11) &&& 255)) (h + 1) ((240 ||| ((kU (kU (cMd en (2 * ((((((g (h + 1)) &&& 7) <<< ((19 : Int32) &&& 31)) ||| ((g h) <<< ((11 : Int32) &&& 31))) ||| (((g (h + 3)) &&& 7) <<< ((8 : Int32) &&& 31))) ||| (g (h + 2)))) (pl + 4)) 1) 19) &&& 7)) &&& 255)) (h + 2) ((kU (cMd en (2 * ((((((g (h + 1)) &&& 7) <<< ((19 : Int32) &&& 31)) ||| ((g h) <<< ((11 : Int32) &&& 31))) ||| (((g (h + 3)) &&& 7) <<< ((8 : Int32) &&& 31))) ||| (g (h + 2)))) (pl + 4)) 1) &&& 255)) (h + 3) ((248 ||| ((kU (kU (cMd en (2 * ((((((g (h + 1)) &&& 7) <<< ((19 : Int32) &&& 31)) ||| ((g h) <<< ((11 : Int32) &&& 31))) ||| (((g (h + 3)) &&& 7) <<< ((8 : Int32) &&& 31))) ||| (g (h + 2)))) (pl + 4)) 1) 8) &&& 7)) &&& 255)) else (2, rp, g)) else (2, rp, g))

set_option maxHeartbeats 4000000 in
set_option maxRecDepth 100000 in
/-- Filter.stepThumb() -/
theorem c_X0_stepThumb (l : Launch) (D : va_G) (cI cF cJ : ClassId) (q ro pa rb h : Nat) (kd ds en pl gv rp mk la sz : Int32) (g : Nat → Int32) (hk : h + 3 < 64) : kI l yX0_stepThumb wsX0_stepThumb ({ frames := 1, cells := 0, slots := 0, locals := 22 }) D (kTy cI cF cJ) [.ref q] [(q, .inr (0, [.ref ro, .ref pa, .int kd, .int ds, .int en, .int pl, .int (nI h), .int gv, .int rp, .int mk, .int la])), (ro, .inr (1, [.ref rb, .int sz])), (rb, .inl (cI, 64, .inl g))] [(q, .inr (0, [.ref ro, .ref pa, .int kd, .int ds, .int en, .int pl, .int (nI h), .int gv, .int ((cThumb en pl rp h g).2.1), .int mk, .int la])), (ro, .inr (1, [.ref rb, .int sz])), (rb, .inl (cI, 64, .inl ((cThumb en pl rp h g).2.2)))] ((cThumb en pl rp h g).1) := by
  refine kI_of (cc := cX0_stepThumb) (nL := 7) (ty := .int) (own := RX0) (lv := [(0, .ref q)]) (by decide) rfl rfl (Nat.le_of_ble_eq_true rfl) rfl (rfl) ?_
  intro p e s m args below meth c A ls Q C hA hK hP hD hS hl hret
  obtain ⟨hx, hb, hr, hml, hown, hts, hlocks⟩ := C
  have k_14 := hts (.fieldLink RX0 14 "BranchFilters$Filter" "held" "LBranchFilters$Row;") (by decide +kernel)
  have k_42 := hts (.fieldLink RX0 42 "BranchFilters$Filter" "place" "I") (by decide +kernel)
  have k_48 := hts (.fieldLink RX0 48 "BranchFilters$Filter" "replaced" "I") (by decide +kernel)
  have k_65 := hts (.fieldLink RX0 65 "BranchFilters$Filter" "here" "I") (by decide +kernel)
  have inX0 : ∀ w ∈ wsX00, w ∈ wsX0_stepThumb := by decide +kernel
  refine lv_aload_n hx hb dX0_stepThumb_0 rfl (lv_at hl 0 rfl) ?_
  refine va_get (D := D) (ci := 0) (v := .ref ro) (C := RX0) (T := TX0) (N := 11) hx hb hts inX0 hown hK hP 0 rfl rfl 0 (by decide) k_14 (fun _ h9 => h9) rfl dX0_stepThumb_1 ?_
  refine lv_aload_n hx hb dX0_stepThumb_4 rfl (lv_at hl 0 rfl) ?_
  refine va_get (D := D) (ci := 0) (v := .int (nI h)) (C := RX0) (T := TX0) (N := 11) hx hb hts inX0 hown hK hP 0 rfl rfl 6 (by decide) k_65 (fun _ h9 => h9) rfl dX0_stepThumb_5 ?_
  refine kCallI (As := [.int (nI h)]) (wc := [(ro, .inr (1, [.ref rb, .int sz])), (rb, .inl (cI, 64, .inl g))]) (wr := [(q, .inr (0, [.ref ro, .ref pa, .int kd, .int ds, .int en, .int pl, .int (nI h), .int gv, .int rp, .int mk, .int la]))]) (ws' := [(q, .inr (0, [.ref ro, .ref pa, .int kd, .int ds, .int en, .int pl, .int (nI h), .int gv, .int rp, .int mk, .int la])), (ro, .inr (1, [.ref rb, .int sz])), (rb, .inl (cI, 64, .inl g))]) (ci := 1) (C := RX1) ⟨hx, hb, hml, hown, hts⟩ (c_X1_at l D cI cF cJ ro rb 64 h g sz (by omega) (by omega)) (cwV 1 hts gX0_stepThumb_X1_at rfl rfl rfl (by decide +kernel) ⟨Nat.le_of_ble_eq_true rfl, Nat.le_of_ble_eq_true rfl⟩) hK hP hD hS hA [1, 2] [0] [0, 1, 2] rfl rfl rfl rfl (by decide) rfl rfl rfl rfl rfl hl.1 (Nat.le_of_ble_eq_true rfl) ⟨Nat.zero_le _, Nat.zero_le _⟩ dX0_stepThumb_8 (fun H locs hP hD hS => ?_) rfl
  refine lv_topi (fun x_1 e_1 => ?_)
  refine lv_istore_n (lv' := [(1, .int x_1), (0, .ref q)]) hx hb dX0_stepThumb_11 rfl hl (by decide) rfl (fun ls hl => ?_)
  refine lv_aload_n hx hb dX0_stepThumb_12 rfl (lv_at hl 1 rfl) ?_
  refine va_get (D := D) (ci := 0) (v := .ref ro) (C := RX0) (T := TX0) (N := 11) hx hb hts inX0 hown hK hP 0 rfl rfl 0 (by decide) k_14 (fun _ h9 => h9) rfl dX0_stepThumb_13 ?_
  refine lv_aload_n hx hb dX0_stepThumb_16 rfl (lv_at hl 1 rfl) ?_
  refine va_get (D := D) (ci := 0) (v := .int (nI h)) (C := RX0) (T := TX0) (N := 11) hx hb hts inX0 hown hK hP 0 rfl rfl 6 (by decide) k_65 (fun _ h9 => h9) rfl dX0_stepThumb_17 ?_
  refine lv_iconst (v := 1) hx hb dX0_stepThumb_20 (by decide) ?_
  refine lv_iadd hx hb dX0_stepThumb_21 ?_
  refine kTop (y := nI (h + 1)) (nI_add _ 1) ?_
  refine kCallI (As := [.int (nI (h + 1))]) (wc := [(ro, .inr (1, [.ref rb, .int sz])), (rb, .inl (cI, 64, .inl g))]) (wr := [(q, .inr (0, [.ref ro, .ref pa, .int kd, .int ds, .int en, .int pl, .int (nI h), .int gv, .int rp, .int mk, .int la]))]) (ws' := [(q, .inr (0, [.ref ro, .ref pa, .int kd, .int ds, .int en, .int pl, .int (nI h), .int gv, .int rp, .int mk, .int la])), (ro, .inr (1, [.ref rb, .int sz])), (rb, .inl (cI, 64, .inl g))]) (ci := 1) (C := RX1) ⟨hx, hb, hml, hown, hts⟩ (c_X1_at l D cI cF cJ ro rb 64 (h + 1) g sz (by omega) (by omega)) (cwV 1 hts gX0_stepThumb_X1_at rfl rfl rfl (by decide +kernel) ⟨Nat.le_of_ble_eq_true rfl, Nat.le_of_ble_eq_true rfl⟩) hK hP hD hS hA [1, 2] [0] [0, 1, 2] rfl rfl rfl rfl (by decide) rfl rfl rfl rfl rfl hl.1 (Nat.le_of_ble_eq_true rfl) ⟨Nat.zero_le _, Nat.zero_le _⟩ dX0_stepThumb_22 (fun H locs hP hD hS => ?_) rfl
  refine lv_topi (fun x_2 e_2 => ?_)
  refine lv_istore_n (lv' := [(2, .int x_2), (1, .int x_1), (0, .ref q)]) hx hb dX0_stepThumb_25 rfl hl (by decide) rfl (fun ls hl => ?_)
  refine lv_aload_n hx hb dX0_stepThumb_26 rfl (lv_at hl 2 rfl) ?_
  refine va_get (D := D) (ci := 0) (v := .ref ro) (C := RX0) (T := TX0) (N := 11) hx hb hts inX0 hown hK hP 0 rfl rfl 0 (by decide) k_14 (fun _ h9 => h9) rfl dX0_stepThumb_27 ?_
  refine lv_aload_n hx hb dX0_stepThumb_30 rfl (lv_at hl 2 rfl) ?_
  refine va_get (D := D) (ci := 0) (v := .int (nI h)) (C := RX0) (T := TX0) (N := 11) hx hb hts inX0 hown hK hP 0 rfl rfl 6 (by decide) k_65 (fun _ h9 => h9) rfl dX0_stepThumb_31 ?_
  refine lv_iconst (v := 2) hx hb dX0_stepThumb_34 (by decide) ?_
  refine lv_iadd hx hb dX0_stepThumb_35 ?_
  refine kTop (y := nI (h + 2)) (nI_add _ 2) ?_
  refine kCallI (As := [.int (nI (h + 2))]) (wc := [(ro, .inr (1, [.ref rb, .int sz])), (rb, .inl (cI, 64, .inl g))]) (wr := [(q, .inr (0, [.ref ro, .ref pa, .int kd, .int ds, .int en, .int pl, .int (nI h), .int gv, .int rp, .int mk, .int la]))]) (ws' := [(q, .inr (0, [.ref ro, .ref pa, .int kd, .int ds, .int en, .int pl, .int (nI h), .int gv, .int rp, .int mk, .int la])), (ro, .inr (1, [.ref rb, .int sz])), (rb, .inl (cI, 64, .inl g))]) (ci := 1) (C := RX1) ⟨hx, hb, hml, hown, hts⟩ (c_X1_at l D cI cF cJ ro rb 64 (h + 2) g sz (by omega) (by omega)) (cwV 1 hts gX0_stepThumb_X1_at rfl rfl rfl (by decide +kernel) ⟨Nat.le_of_ble_eq_true rfl, Nat.le_of_ble_eq_true rfl⟩) hK hP hD hS hA [1, 2] [0] [0, 1, 2] rfl rfl rfl rfl (by decide) rfl rfl rfl rfl rfl hl.1 (Nat.le_of_ble_eq_true rfl) ⟨Nat.zero_le _, Nat.zero_le _⟩ dX0_stepThumb_36 (fun H locs hP hD hS => ?_) rfl
  refine lv_topi (fun x_3 e_3 => ?_)
  refine lv_istore_n (lv' := [(3, .int x_3), (2, .int x_2), (1, .int x_1), (0, .ref q)]) hx hb dX0_stepThumb_39 rfl hl (by decide) rfl (fun ls hl => ?_)
  refine lv_aload_n hx hb dX0_stepThumb_40 rfl (lv_at hl 3 rfl) ?_
  refine va_get (D := D) (ci := 0) (v := .ref ro) (C := RX0) (T := TX0) (N := 11) hx hb hts inX0 hown hK hP 0 rfl rfl 0 (by decide) k_14 (fun _ h9 => h9) rfl dX0_stepThumb_41 ?_
  refine lv_aload_n hx hb dX0_stepThumb_44 rfl (lv_at hl 3 rfl) ?_
  refine va_get (D := D) (ci := 0) (v := .int (nI h)) (C := RX0) (T := TX0) (N := 11) hx hb hts inX0 hown hK hP 0 rfl rfl 6 (by decide) k_65 (fun _ h9 => h9) rfl dX0_stepThumb_45 ?_
  refine lv_iconst (v := 3) hx hb dX0_stepThumb_48 (by decide) ?_
  refine lv_iadd hx hb dX0_stepThumb_49 ?_
  refine kTop (y := nI (h + 3)) (nI_add _ 3) ?_
  refine kCallI (As := [.int (nI (h + 3))]) (wc := [(ro, .inr (1, [.ref rb, .int sz])), (rb, .inl (cI, 64, .inl g))]) (wr := [(q, .inr (0, [.ref ro, .ref pa, .int kd, .int ds, .int en, .int pl, .int (nI h), .int gv, .int rp, .int mk, .int la]))]) (ws' := [(q, .inr (0, [.ref ro, .ref pa, .int kd, .int ds, .int en, .int pl, .int (nI h), .int gv, .int rp, .int mk, .int la])), (ro, .inr (1, [.ref rb, .int sz])), (rb, .inl (cI, 64, .inl g))]) (ci := 1) (C := RX1) ⟨hx, hb, hml, hown, hts⟩ (c_X1_at l D cI cF cJ ro rb 64 (h + 3) g sz (by omega) (by omega)) (cwV 1 hts gX0_stepThumb_X1_at rfl rfl rfl (by decide +kernel) ⟨Nat.le_of_ble_eq_true rfl, Nat.le_of_ble_eq_true rfl⟩) hK hP hD hS hA [1, 2] [0] [0, 1, 2] rfl rfl rfl rfl (by decide) rfl rfl rfl rfl rfl hl.1 (Nat.le_of_ble_eq_true rfl) ⟨Nat.zero_le _, Nat.zero_le _⟩ dX0_stepThumb_50 (fun H locs hP hD hS => ?_) rfl
  refine lv_topi (fun x_4 e_4 => ?_)
  refine lv_istore (lv' := [(4, .int x_4), (3, .int x_3), (2, .int x_2), (1, .int x_1), (0, .ref q)]) hx hb dX0_stepThumb_53 hl (by decide) rfl (fun ls hl => ?_)
  refine lv_iload_n hx hb dX0_stepThumb_55 rfl (lv_at hl 2 rfl) ?_
  refine lv_iconst (v := 3) hx hb dX0_stepThumb_56 (by decide) ?_
  refine lv_iushr (v := (kU x_2 3)) hx hb dX0_stepThumb_57 rfl ?_
  refine lv_bipush (v := 30) hx hb dX0_stepThumb_58 (by decide) ?_
  refine lv_icmp_ne (tgt := 72) hx hb dX0_stepThumb_60 (by decide) (fun c_5 => ?_) (fun c_5 => ?_)
  · refine lv_iconst (v := 2) hx hb dX0_stepThumb_72 (by decide) ?_
    subst e_4
    subst e_3
    subst e_2
    subst e_1
    have e9 : cThumb en pl rp h g = (2, rp, g) := if_neg c_5
    exact hret _ _ _ _ _ dX0_stepThumb_73 (by rw [e9]) (by rw [e9]; exact hP) (by rw [e9]; exact hD) hS
  · refine lv_iload hx hb dX0_stepThumb_63 (lv_at hl 0 rfl) ?_
    refine lv_iconst (v := 3) hx hb dX0_stepThumb_65 (by decide) ?_
    refine lv_iushr (v := (kU x_4 3)) hx hb dX0_stepThumb_66 rfl ?_
    refine lv_bipush (v := 31) hx hb dX0_stepThumb_67 (by decide) ?_
    refine lv_icmp_eq (tgt := 74) hx hb dX0_stepThumb_69 (by decide) (fun c_6 => ?_) (fun c_6 => ?_)
    · refine lv_iload_n hx hb dX0_stepThumb_74 rfl (lv_at hl 2 rfl) ?_
      refine lv_bipush (v := 7) hx hb dX0_stepThumb_75 (by decide) ?_
      refine lv_iand hx hb dX0_stepThumb_77 ?_
      refine lv_bipush (v := 19) hx hb dX0_stepThumb_78 (by decide) ?_
      refine lv_ishl hx hb dX0_stepThumb_80 ?_
      refine lv_iload_n hx hb dX0_stepThumb_81 rfl (lv_at hl 3 rfl) ?_
      refine lv_bipush (v := 11) hx hb dX0_stepThumb_82 (by decide) ?_
      refine lv_ishl hx hb dX0_stepThumb_84 ?_
      refine lv_ior hx hb dX0_stepThumb_85 ?_
      refine lv_iload hx hb dX0_stepThumb_86 (lv_at hl 0 rfl) ?_
      refine lv_bipush (v := 7) hx hb dX0_stepThumb_88 (by decide) ?_
      refine lv_iand hx hb dX0_stepThumb_90 ?_
      refine lv_bipush (v := 8) hx hb dX0_stepThumb_91 (by decide) ?_
      refine lv_ishl hx hb dX0_stepThumb_93 ?_
      refine lv_ior hx hb dX0_stepThumb_94 ?_
      refine lv_iload_n hx hb dX0_stepThumb_95 rfl (lv_at hl 1 rfl) ?_
      refine lv_ior hx hb dX0_stepThumb_96 ?_
      refine lv_topi (fun x_7 e_7 => ?_)
      refine lv_istore (lv' := [(5, .int x_7), (4, .int x_4), (3, .int x_3), (2, .int x_2), (1, .int x_1), (0, .ref q)]) hx hb dX0_stepThumb_97 hl (by decide) rfl (fun ls hl => ?_)
      refine lv_aload_n hx hb dX0_stepThumb_99 rfl (lv_at hl 5 rfl) ?_
      refine lv_iconst (v := 2) hx hb dX0_stepThumb_100 (by decide) ?_
      refine lv_iload hx hb dX0_stepThumb_101 (lv_at hl 0 rfl) ?_
      refine lv_imul hx hb dX0_stepThumb_103 ?_
      refine lv_aload_n hx hb dX0_stepThumb_104 rfl (lv_at hl 5 rfl) ?_
      refine va_get (D := D) (ci := 0) (v := .int pl) (C := RX0) (T := TX0) (N := 11) hx hb hts inX0 hown hK hP 0 rfl rfl 5 (by decide) k_42 (fun _ h9 => h9) rfl dX0_stepThumb_105 ?_
      refine lv_iconst (v := 4) hx hb dX0_stepThumb_108 (by decide) ?_
      refine lv_iadd hx hb dX0_stepThumb_109 ?_
      refine kCallI (As := [.int (2 * x_7), .int (pl + 4)]) (wc := [(q, .inr (0, [.ref ro, .ref pa, .int kd, .int ds, .int en, .int pl, .int (nI h), .int gv, .int rp, .int mk, .int la]))]) (wr := [(ro, .inr (1, [.ref rb, .int sz])), (rb, .inl (cI, 64, .inl g))]) (ws' := [(q, .inr (0, [.ref ro, .ref pa, .int kd, .int ds, .int en, .int pl, .int (nI h), .int gv, .int rp, .int mk, .int la])), (ro, .inr (1, [.ref rb, .int sz])), (rb, .inl (cI, 64, .inl g))]) (ci := 0) (C := RX0) ⟨hx, hb, hml, hown, hts⟩ (c_X0_moved l D cI cF cJ q ro pa kd ds en pl (nI h) gv rp mk la (2 * x_7) (pl + 4) ) (cwV 2 hts gX0_stepThumb_X0_moved rfl rfl rfl (by decide +kernel) ⟨Nat.le_of_ble_eq_true rfl, Nat.le_of_ble_eq_true rfl⟩) hK hP hD hS hA [0] [1, 2] [2, 0, 1] rfl rfl rfl rfl (by decide) rfl rfl rfl rfl rfl hl.1 (Nat.le_of_ble_eq_true rfl) ⟨Nat.zero_le _, Nat.zero_le _⟩ dX0_stepThumb_110 (fun H locs hP hD hS => ?_) rfl
      refine lv_iconst (v := 1) hx hb dX0_stepThumb_113 (by decide) ?_
      refine lv_iushr (v := (kU (cMd en (2 * x_7) (pl + 4)) 1)) hx hb dX0_stepThumb_114 rfl ?_
      refine lv_topi (fun x_8 e_8 => ?_)
      refine lv_istore (lv' := [(6, .int x_8), (5, .int x_7), (4, .int x_4), (3, .int x_3), (2, .int x_2), (1, .int x_1), (0, .ref q)]) hx hb dX0_stepThumb_115 hl (by decide) rfl (fun ls hl => ?_)
      refine lv_aload_n hx hb dX0_stepThumb_117 rfl (lv_at hl 6 rfl) ?_
      refine va_get (D := D) (ci := 0) (v := .ref ro) (C := RX0) (T := TX0) (N := 11) hx hb hts inX0 hown hK hP 0 rfl rfl 0 (by decide) k_14 (fun _ h9 => h9) rfl dX0_stepThumb_118 ?_
      refine lv_aload_n hx hb dX0_stepThumb_121 rfl (lv_at hl 6 rfl) ?_
      refine va_get (D := D) (ci := 0) (v := .int (nI h)) (C := RX0) (T := TX0) (N := 11) hx hb hts inX0 hown hK hP 0 rfl rfl 6 (by decide) k_65 (fun _ h9 => h9) rfl dX0_stepThumb_122 ?_
      refine lv_iload hx hb dX0_stepThumb_125 (lv_at hl 0 rfl) ?_
      refine lv_bipush (v := 11) hx hb dX0_stepThumb_127 (by decide) ?_
      refine lv_iushr (v := (kU x_8 11)) hx hb dX0_stepThumb_129 rfl ?_
      refine kCallV (As := [.int (nI h), .int (kU x_8 11)]) (wc := [(ro, .inr (1, [.ref rb, .int sz])), (rb, .inl (cI, 64, .inl g))]) (wr := [(q, .inr (0, [.ref ro, .ref pa, .int kd, .int ds, .int en, .int pl, .int (nI h), .int gv, .int rp, .int mk, .int la]))]) (ws' := [(q, .inr (0, [.ref ro, .ref pa, .int kd, .int ds, .int en, .int pl, .int (nI h), .int gv, .int rp, .int mk, .int la])), (ro, .inr (1, [.ref rb, .int sz])), (rb, .inl (cI, 64, .inl (upd g h ((kU x_8 11) &&& 255))))]) (ci := 1) (C := RX1) ⟨hx, hb, hml, hown, hts⟩ (c_X1_set l D cI cF cJ ro rb 64 h g sz (kU x_8 11) (by omega) (by omega)) (cwV 2 hts gX0_stepThumb_X1_set rfl rfl rfl (by decide +kernel) ⟨Nat.le_of_ble_eq_true rfl, Nat.le_of_ble_eq_true rfl⟩) hK hP hD hS hA [1, 2] [0] [0, 1, 2] rfl rfl rfl rfl (by decide) rfl rfl rfl rfl rfl hl.1 (Nat.le_of_ble_eq_true rfl) ⟨Nat.zero_le _, Nat.zero_le _⟩ dX0_stepThumb_130 (fun H locs hP hD hS => ?_) rfl
      refine lv_aload_n hx hb dX0_stepThumb_133 rfl (lv_at hl 6 rfl) ?_
      refine va_get (D := D) (ci := 0) (v := .ref ro) (C := RX0) (T := TX0) (N := 11) hx hb hts inX0 hown hK hP 0 rfl rfl 0 (by decide) k_14 (fun _ h9 => h9) rfl dX0_stepThumb_134 ?_
      refine lv_aload_n hx hb dX0_stepThumb_137 rfl (lv_at hl 6 rfl) ?_
      refine va_get (D := D) (ci := 0) (v := .int (nI h)) (C := RX0) (T := TX0) (N := 11) hx hb hts inX0 hown hK hP 0 rfl rfl 6 (by decide) k_65 (fun _ h9 => h9) rfl dX0_stepThumb_138 ?_
      refine lv_iconst (v := 1) hx hb dX0_stepThumb_141 (by decide) ?_
      refine lv_iadd hx hb dX0_stepThumb_142 ?_
      refine kTop (y := nI (h + 1)) (nI_add _ 1) ?_
      refine lv_sipush (v := 240) hx hb dX0_stepThumb_143 (by decide) ?_
      refine lv_iload hx hb dX0_stepThumb_146 (lv_at hl 0 rfl) ?_
      refine lv_bipush (v := 19) hx hb dX0_stepThumb_148 (by decide) ?_
      refine lv_iushr (v := (kU x_8 19)) hx hb dX0_stepThumb_150 rfl ?_
      refine lv_bipush (v := 7) hx hb dX0_stepThumb_151 (by decide) ?_
      refine lv_iand hx hb dX0_stepThumb_153 ?_
      refine lv_ior hx hb dX0_stepThumb_154 ?_
      refine kCallV (As := [.int (nI (h + 1)), .int (240 ||| ((kU x_8 19) &&& 7))]) (wc := [(ro, .inr (1, [.ref rb, .int sz])), (rb, .inl (cI, 64, .inl (upd g h ((kU x_8 11) &&& 255))))]) (wr := [(q, .inr (0, [.ref ro, .ref pa, .int kd, .int ds, .int en, .int pl, .int (nI h), .int gv, .int rp, .int mk, .int la]))]) (ws' := [(q, .inr (0, [.ref ro, .ref pa, .int kd, .int ds, .int en, .int pl, .int (nI h), .int gv, .int rp, .int mk, .int la])), (ro, .inr (1, [.ref rb, .int sz])), (rb, .inl (cI, 64, .inl (upd (upd g h ((kU x_8 11) &&& 255)) (h + 1) ((240 ||| ((kU x_8 19) &&& 7)) &&& 255))))]) (ci := 1) (C := RX1) ⟨hx, hb, hml, hown, hts⟩ (c_X1_set l D cI cF cJ ro rb 64 (h + 1) (upd g h ((kU x_8 11) &&& 255)) sz (240 ||| ((kU x_8 19) &&& 7)) (by omega) (by omega)) (cwV 2 hts gX0_stepThumb_X1_set rfl rfl rfl (by decide +kernel) ⟨Nat.le_of_ble_eq_true rfl, Nat.le_of_ble_eq_true rfl⟩) hK hP hD hS hA [1, 2] [0] [0, 1, 2] rfl rfl rfl rfl (by decide) rfl rfl rfl rfl rfl hl.1 (Nat.le_of_ble_eq_true rfl) ⟨Nat.zero_le _, Nat.zero_le _⟩ dX0_stepThumb_155 (fun H locs hP hD hS => ?_) rfl
      refine lv_aload_n hx hb dX0_stepThumb_158 rfl (lv_at hl 6 rfl) ?_
      refine va_get (D := D) (ci := 0) (v := .ref ro) (C := RX0) (T := TX0) (N := 11) hx hb hts inX0 hown hK hP 0 rfl rfl 0 (by decide) k_14 (fun _ h9 => h9) rfl dX0_stepThumb_159 ?_
      refine lv_aload_n hx hb dX0_stepThumb_162 rfl (lv_at hl 6 rfl) ?_
      refine va_get (D := D) (ci := 0) (v := .int (nI h)) (C := RX0) (T := TX0) (N := 11) hx hb hts inX0 hown hK hP 0 rfl rfl 6 (by decide) k_65 (fun _ h9 => h9) rfl dX0_stepThumb_163 ?_
      refine lv_iconst (v := 2) hx hb dX0_stepThumb_166 (by decide) ?_
      refine lv_iadd hx hb dX0_stepThumb_167 ?_
      refine kTop (y := nI (h + 2)) (nI_add _ 2) ?_
      refine lv_iload hx hb dX0_stepThumb_168 (lv_at hl 0 rfl) ?_
      refine kCallV (As := [.int (nI (h + 2)), .int x_8]) (wc := [(ro, .inr (1, [.ref rb, .int sz])), (rb, .inl (cI, 64, .inl (upd (upd g h ((kU x_8 11) &&& 255)) (h + 1) ((240 ||| ((kU x_8 19) &&& 7)) &&& 255))))]) (wr := [(q, .inr (0, [.ref ro, .ref pa, .int kd, .int ds, .int en, .int pl, .int (nI h), .int gv, .int rp, .int mk, .int la]))]) (ws' := [(q, .inr (0, [.ref ro, .ref pa, .int kd, .int ds, .int en, .int pl, .int (nI h), .int gv, .int rp, .int mk, .int la])), (ro, .inr (1, [.ref rb, .int sz])), (rb, .inl (cI, 64, .inl (upd (upd (upd g h ((kU x_8 11) &&& 255)) (h + 1) ((240 ||| ((kU x_8 19) &&& 7)) &&& 255)) (h + 2) (x_8 &&& 255))))]) (ci := 1) (C := RX1) ⟨hx, hb, hml, hown, hts⟩ (c_X1_set l D cI cF cJ ro rb 64 (h + 2) (upd (upd g h ((kU x_8 11) &&& 255)) (h + 1) ((240 ||| ((kU x_8 19) &&& 7)) &&& 255)) sz x_8 (by omega) (by omega)) (cwV 2 hts gX0_stepThumb_X1_set rfl rfl rfl (by decide +kernel) ⟨Nat.le_of_ble_eq_true rfl, Nat.le_of_ble_eq_true rfl⟩) hK hP hD hS hA [1, 2] [0] [0, 1, 2] rfl rfl rfl rfl (by decide) rfl rfl rfl rfl rfl hl.1 (Nat.le_of_ble_eq_true rfl) ⟨Nat.zero_le _, Nat.zero_le _⟩ dX0_stepThumb_170 (fun H locs hP hD hS => ?_) rfl
      refine lv_aload_n hx hb dX0_stepThumb_173 rfl (lv_at hl 6 rfl) ?_
      refine va_get (D := D) (ci := 0) (v := .ref ro) (C := RX0) (T := TX0) (N := 11) hx hb hts inX0 hown hK hP 0 rfl rfl 0 (by decide) k_14 (fun _ h9 => h9) rfl dX0_stepThumb_174 ?_
      refine lv_aload_n hx hb dX0_stepThumb_177 rfl (lv_at hl 6 rfl) ?_
      refine va_get (D := D) (ci := 0) (v := .int (nI h)) (C := RX0) (T := TX0) (N := 11) hx hb hts inX0 hown hK hP 0 rfl rfl 6 (by decide) k_65 (fun _ h9 => h9) rfl dX0_stepThumb_178 ?_
      refine lv_iconst (v := 3) hx hb dX0_stepThumb_181 (by decide) ?_
      refine lv_iadd hx hb dX0_stepThumb_182 ?_
      refine kTop (y := nI (h + 3)) (nI_add _ 3) ?_
      refine lv_sipush (v := 248) hx hb dX0_stepThumb_183 (by decide) ?_
      refine lv_iload hx hb dX0_stepThumb_186 (lv_at hl 0 rfl) ?_
      refine lv_bipush (v := 8) hx hb dX0_stepThumb_188 (by decide) ?_
      refine lv_iushr (v := (kU x_8 8)) hx hb dX0_stepThumb_190 rfl ?_
      refine lv_bipush (v := 7) hx hb dX0_stepThumb_191 (by decide) ?_
      refine lv_iand hx hb dX0_stepThumb_193 ?_
      refine lv_ior hx hb dX0_stepThumb_194 ?_
      refine kCallV (As := [.int (nI (h + 3)), .int (248 ||| ((kU x_8 8) &&& 7))]) (wc := [(ro, .inr (1, [.ref rb, .int sz])), (rb, .inl (cI, 64, .inl (upd (upd (upd g h ((kU x_8 11) &&& 255)) (h + 1) ((240 ||| ((kU x_8 19) &&& 7)) &&& 255)) (h + 2) (x_8 &&& 255))))]) (wr := [(q, .inr (0, [.ref ro, .ref pa, .int kd, .int ds, .int en, .int pl, .int (nI h), .int gv, .int rp, .int mk, .int la]))]) (ws' := [(q, .inr (0, [.ref ro, .ref pa, .int kd, .int ds, .int en, .int pl, .int (nI h), .int gv, .int rp, .int mk, .int la])), (ro, .inr (1, [.ref rb, .int sz])), (rb, .inl (cI, 64, .inl (upd (upd (upd (upd g h ((kU x_8 11) &&& 255)) (h + 1) ((240 ||| ((kU x_8 19) &&& 7)) &&& 255)) (h + 2) (x_8 &&& 255)) (h + 3) ((248 ||| ((kU x_8 8) &&& 7)) &&& 255))))]) (ci := 1) (C := RX1) ⟨hx, hb, hml, hown, hts⟩ (c_X1_set l D cI cF cJ ro rb 64 (h + 3) (upd (upd (upd g h ((kU x_8 11) &&& 255)) (h + 1) ((240 ||| ((kU x_8 19) &&& 7)) &&& 255)) (h + 2) (x_8 &&& 255)) sz (248 ||| ((kU x_8 8) &&& 7)) (by omega) (by omega)) (cwV 2 hts gX0_stepThumb_X1_set rfl rfl rfl (by decide +kernel) ⟨Nat.le_of_ble_eq_true rfl, Nat.le_of_ble_eq_true rfl⟩) hK hP hD hS hA [1, 2] [0] [0, 1, 2] rfl rfl rfl rfl (by decide) rfl rfl rfl rfl rfl hl.1 (Nat.le_of_ble_eq_true rfl) ⟨Nat.zero_le _, Nat.zero_le _⟩ dX0_stepThumb_195 (fun H locs hP hD hS => ?_) rfl
      refine lv_aload_n hx hb dX0_stepThumb_198 rfl (lv_at hl 6 rfl) ?_
      refine lv_dup hx hb dX0_stepThumb_199 rfl ?_
      refine va_get (D := D) (ci := 0) (v := .int rp) (C := RX0) (T := TX0) (N := 11) hx hb hts inX0 hown hK hP 0 rfl rfl 8 (by decide) k_48 (fun _ h9 => h9) rfl dX0_stepThumb_200 ?_
      refine lv_iconst (v := 1) hx hb dX0_stepThumb_203 (by decide) ?_
      refine lv_iadd hx hb dX0_stepThumb_204 ?_
      refine kPut (D := D) (ci := 0) (v := .int (rp + 1)) (ty := .int) (C := RX0) (T := TX0) (N := 11) (ws' := [(q, .inr (0, [.ref ro, .ref pa, .int kd, .int ds, .int en, .int pl, .int (nI h), .int gv, .int (rp + 1), .int mk, .int la])), (ro, .inr (1, [.ref rb, .int sz])), (rb, .inl (cI, 64, .inl (upd (upd (upd (upd g h ((kU x_8 11) &&& 255)) (h + 1) ((240 ||| ((kU x_8 19) &&& 7)) &&& 255)) (h + 2) (x_8 &&& 255)) (h + 3) ((248 ||| ((kU x_8 8) &&& 7)) &&& 255))))]) hx hb hts inX0 tyX0 tyX0_ok nmX0 hown hK hP hD hS 0 rfl rfl 8 (by decide) k_48 rfl (by decide +kernel) (rfl) (by first | rfl | decide) (Nat.le_of_ble_eq_true rfl) rfl dX0_stepThumb_205 (fun H locs hP hD hS => ?_)
      refine lv_iconst (v := 4) hx hb dX0_stepThumb_208 (by decide) ?_
      subst e_8
      subst e_7
      subst e_4
      subst e_3
      subst e_2
      subst e_1
      have e9 : cThumb en pl rp h g = (4, rp + 1, upd (upd (upd (upd g h ((kU (kU (cMd en (2 * ((((((g (h + 1)) &&& 7) <<< ((19 : Int32) &&& 31)) ||| ((g h) <<< ((11 : Int32) &&& 31))) ||| (((g (h + 3)) &&& 7) <<< ((8 : Int32) &&& 31))) ||| (g (h + 2)))) (pl + 4)) 1) 11) &&& 255)) (h + 1) ((240 ||| ((kU (kU (cMd en (2 * ((((((g (h + 1)) &&& 7) <<< ((19 : Int32) &&& 31)) ||| ((g h) <<< ((11 : Int32) &&& 31))) ||| (((g (h + 3)) &&& 7) <<< ((8 : Int32) &&& 31))) ||| (g (h + 2)))) (pl + 4)) 1) 19) &&& 7)) &&& 255)) (h + 2) ((kU (cMd en (2 * ((((((g (h + 1)) &&& 7) <<< ((19 : Int32) &&& 31)) ||| ((g h) <<< ((11 : Int32) &&& 31))) ||| (((g (h + 3)) &&& 7) <<< ((8 : Int32) &&& 31))) ||| (g (h + 2)))) (pl + 4)) 1) &&& 255)) (h + 3) ((248 ||| ((kU (kU (cMd en (2 * ((((((g (h + 1)) &&& 7) <<< ((19 : Int32) &&& 31)) ||| ((g h) <<< ((11 : Int32) &&& 31))) ||| (((g (h + 3)) &&& 7) <<< ((8 : Int32) &&& 31))) ||| (g (h + 2)))) (pl + 4)) 1) 8) &&& 7)) &&& 255)) := (if_pos c_5).trans (if_pos c_6)
      exact hret _ _ _ _ _ dX0_stepThumb_209 (by rw [e9]) (by rw [e9]; exact hP) (by rw [e9]; exact hD) hS
    · refine lv_iconst (v := 2) hx hb dX0_stepThumb_72 (by decide) ?_
      subst e_4
      subst e_3
      subst e_2
      subst e_1
      have e9 : cThumb en pl rp h g = (2, rp, g) := (if_pos c_5).trans (if_neg c_6)
      exact hret _ _ _ _ _ dX0_stepThumb_73 (by rw [e9]) (by rw [e9]; exact hP) (by rw [e9]; exact hD) hS

def cPower (en : Int32) (pl : Int32) (rp : Int32) (h : Nat) (g : Nat → Int32) : Int32 × Int32 × (Nat → Int32) := (if kU (cHi g h) 26 = 18 then (if (cHi g h) &&& 3 = 1 then (4, rp + 1, cSetHi g h (((cHi g h) &&& (-67108861)) ||| ((cMd en ((cHi g h) &&& 67108860) pl) &&& 67108860))) else (4, rp, g)) else (4, rp, g))

set_option maxHeartbeats 4000000 in
set_option maxRecDepth 100000 in
/-- Filter.stepPower() -/
theorem c_X0_stepPower (l : Launch) (D : va_G) (cI cF cJ : ClassId) (q ro pa rb h : Nat) (kd ds en pl gv rp mk la sz : Int32) (g : Nat → Int32) (hk : h + 3 < 64) : kI l yX0_stepPower wsX0_stepPower ({ frames := 1, cells := 0, slots := 0, locals := 22 }) D (kTy cI cF cJ) [.ref q] [(q, .inr (0, [.ref ro, .ref pa, .int kd, .int ds, .int en, .int pl, .int (nI h), .int gv, .int rp, .int mk, .int la])), (ro, .inr (1, [.ref rb, .int sz])), (rb, .inl (cI, 64, .inl g))] [(q, .inr (0, [.ref ro, .ref pa, .int kd, .int ds, .int en, .int pl, .int (nI h), .int gv, .int ((cPower en pl rp h g).2.1), .int mk, .int la])), (ro, .inr (1, [.ref rb, .int sz])), (rb, .inl (cI, 64, .inl ((cPower en pl rp h g).2.2)))] ((cPower en pl rp h g).1) := by
  refine kI_of (cc := cX0_stepPower) (nL := 3) (ty := .int) (own := RX0) (lv := [(0, .ref q)]) (by decide) rfl rfl (Nat.le_of_ble_eq_true rfl) rfl (rfl) ?_
  intro p e s m args below meth c A ls Q C hA hK hP hD hS hl hret
  obtain ⟨hx, hb, hr, hml, hown, hts, hlocks⟩ := C
  have k_118 := hts (.constant RX0 118 (67108860)) (by decide +kernel)
  have k_119 := hts (.constant RX0 119 (-67108861)) (by decide +kernel)
  have k_14 := hts (.fieldLink RX0 14 "BranchFilters$Filter" "held" "LBranchFilters$Row;") (by decide +kernel)
  have k_42 := hts (.fieldLink RX0 42 "BranchFilters$Filter" "place" "I") (by decide +kernel)
  have k_48 := hts (.fieldLink RX0 48 "BranchFilters$Filter" "replaced" "I") (by decide +kernel)
  have k_65 := hts (.fieldLink RX0 65 "BranchFilters$Filter" "here" "I") (by decide +kernel)
  have inX0 : ∀ w ∈ wsX00, w ∈ wsX0_stepPower := by decide +kernel
  refine lv_aload_n hx hb dX0_stepPower_0 rfl (lv_at hl 0 rfl) ?_
  refine va_get (D := D) (ci := 0) (v := .ref ro) (C := RX0) (T := TX0) (N := 11) hx hb hts inX0 hown hK hP 0 rfl rfl 0 (by decide) k_14 (fun _ h9 => h9) rfl dX0_stepPower_1 ?_
  refine lv_aload_n hx hb dX0_stepPower_4 rfl (lv_at hl 0 rfl) ?_
  refine va_get (D := D) (ci := 0) (v := .int (nI h)) (C := RX0) (T := TX0) (N := 11) hx hb hts inX0 hown hK hP 0 rfl rfl 6 (by decide) k_65 (fun _ h9 => h9) rfl dX0_stepPower_5 ?_
  refine kCallI (As := [.int (nI h)]) (wc := [(ro, .inr (1, [.ref rb, .int sz])), (rb, .inl (cI, 64, .inl g))]) (wr := [(q, .inr (0, [.ref ro, .ref pa, .int kd, .int ds, .int en, .int pl, .int (nI h), .int gv, .int rp, .int mk, .int la]))]) (ws' := [(q, .inr (0, [.ref ro, .ref pa, .int kd, .int ds, .int en, .int pl, .int (nI h), .int gv, .int rp, .int mk, .int la])), (ro, .inr (1, [.ref rb, .int sz])), (rb, .inl (cI, 64, .inl g))]) (ci := 1) (C := RX1) ⟨hx, hb, hml, hown, hts⟩ (c_X1_highestFirst l D cI cF cJ ro rb 64 h g sz (by omega) (by omega)) (cwV 1 hts gX0_stepPower_X1_highestFirst rfl rfl rfl (by decide +kernel) ⟨Nat.le_of_ble_eq_true rfl, Nat.le_of_ble_eq_true rfl⟩) hK hP hD hS hA [1, 2] [0] [0, 1, 2] rfl rfl rfl rfl (by decide) rfl rfl rfl rfl rfl hl.1 (Nat.le_of_ble_eq_true rfl) ⟨Nat.zero_le _, Nat.zero_le _⟩ dX0_stepPower_8 (fun H locs hP hD hS => ?_) rfl
  refine lv_topi (fun x_1 e_1 => ?_)
  refine lv_istore_n (lv' := [(1, .int x_1), (0, .ref q)]) hx hb dX0_stepPower_11 rfl hl (by decide) rfl (fun ls hl => ?_)
  refine lv_iload_n hx hb dX0_stepPower_12 rfl (lv_at hl 0 rfl) ?_
  refine lv_bipush (v := 26) hx hb dX0_stepPower_13 (by decide) ?_
  refine lv_iushr (v := (kU x_1 26)) hx hb dX0_stepPower_15 rfl ?_
  refine lv_bipush (v := 18) hx hb dX0_stepPower_16 (by decide) ?_
  refine lv_icmp_ne (tgt := 71) hx hb dX0_stepPower_18 (by decide) (fun c_2 => ?_) (fun c_2 => ?_)
  · refine lv_iconst (v := 4) hx hb dX0_stepPower_71 (by decide) ?_
    subst e_1
    have e9 : cPower en pl rp h g = (4, rp, g) := if_neg c_2
    exact hret _ _ _ _ _ dX0_stepPower_72 (by rw [e9]) (by rw [e9]; exact hP) (by rw [e9]; exact hD) hS
  · refine lv_iload_n hx hb dX0_stepPower_21 rfl (lv_at hl 0 rfl) ?_
    refine lv_iconst (v := 3) hx hb dX0_stepPower_22 (by decide) ?_
    refine lv_iand hx hb dX0_stepPower_23 ?_
    refine lv_iconst (v := 1) hx hb dX0_stepPower_24 (by decide) ?_
    refine lv_icmp_ne (tgt := 71) hx hb dX0_stepPower_25 (by decide) (fun c_3 => ?_) (fun c_3 => ?_)
    · refine lv_iconst (v := 4) hx hb dX0_stepPower_71 (by decide) ?_
      subst e_1
      have e9 : cPower en pl rp h g = (4, rp, g) := (if_pos c_2).trans (if_neg c_3)
      exact hret _ _ _ _ _ dX0_stepPower_72 (by rw [e9]) (by rw [e9]; exact hP) (by rw [e9]; exact hD) hS
    · refine lv_aload_n hx hb dX0_stepPower_28 rfl (lv_at hl 1 rfl) ?_
      refine lv_iload_n hx hb dX0_stepPower_29 rfl (lv_at hl 0 rfl) ?_
      refine lv_ldc (v := 67108860) hx hb hown k_118 dX0_stepPower_30 ?_
      refine lv_iand hx hb dX0_stepPower_32 ?_
      refine lv_aload_n hx hb dX0_stepPower_33 rfl (lv_at hl 1 rfl) ?_
      refine va_get (D := D) (ci := 0) (v := .int pl) (C := RX0) (T := TX0) (N := 11) hx hb hts inX0 hown hK hP 0 rfl rfl 5 (by decide) k_42 (fun _ h9 => h9) rfl dX0_stepPower_34 ?_
      refine kCallI (As := [.int (x_1 &&& 67108860), .int pl]) (wc := [(q, .inr (0, [.ref ro, .ref pa, .int kd, .int ds, .int en, .int pl, .int (nI h), .int gv, .int rp, .int mk, .int la]))]) (wr := [(ro, .inr (1, [.ref rb, .int sz])), (rb, .inl (cI, 64, .inl g))]) (ws' := [(q, .inr (0, [.ref ro, .ref pa, .int kd, .int ds, .int en, .int pl, .int (nI h), .int gv, .int rp, .int mk, .int la])), (ro, .inr (1, [.ref rb, .int sz])), (rb, .inl (cI, 64, .inl g))]) (ci := 0) (C := RX0) ⟨hx, hb, hml, hown, hts⟩ (c_X0_moved l D cI cF cJ q ro pa kd ds en pl (nI h) gv rp mk la (x_1 &&& 67108860) pl ) (cwV 2 hts gX0_stepPower_X0_moved rfl rfl rfl (by decide +kernel) ⟨Nat.le_of_ble_eq_true rfl, Nat.le_of_ble_eq_true rfl⟩) hK hP hD hS hA [0] [1, 2] [2, 0, 1] rfl rfl rfl rfl (by decide) rfl rfl rfl rfl rfl hl.1 (Nat.le_of_ble_eq_true rfl) ⟨Nat.zero_le _, Nat.zero_le _⟩ dX0_stepPower_37 (fun H locs hP hD hS => ?_) rfl
      refine lv_topi (fun x_4 e_4 => ?_)
      refine lv_istore_n (lv' := [(2, .int x_4), (1, .int x_1), (0, .ref q)]) hx hb dX0_stepPower_40 rfl hl (by decide) rfl (fun ls hl => ?_)
      refine lv_aload_n hx hb dX0_stepPower_41 rfl (lv_at hl 2 rfl) ?_
      refine va_get (D := D) (ci := 0) (v := .ref ro) (C := RX0) (T := TX0) (N := 11) hx hb hts inX0 hown hK hP 0 rfl rfl 0 (by decide) k_14 (fun _ h9 => h9) rfl dX0_stepPower_42 ?_
      refine lv_aload_n hx hb dX0_stepPower_45 rfl (lv_at hl 2 rfl) ?_
      refine va_get (D := D) (ci := 0) (v := .int (nI h)) (C := RX0) (T := TX0) (N := 11) hx hb hts inX0 hown hK hP 0 rfl rfl 6 (by decide) k_65 (fun _ h9 => h9) rfl dX0_stepPower_46 ?_
      refine lv_iload_n hx hb dX0_stepPower_49 rfl (lv_at hl 1 rfl) ?_
      refine lv_ldc (v := (-67108861)) hx hb hown k_119 dX0_stepPower_50 ?_
      refine lv_iand hx hb dX0_stepPower_52 ?_
      refine lv_iload_n hx hb dX0_stepPower_53 rfl (lv_at hl 0 rfl) ?_
      refine lv_ldc (v := 67108860) hx hb hown k_118 dX0_stepPower_54 ?_
      refine lv_iand hx hb dX0_stepPower_56 ?_
      refine lv_ior hx hb dX0_stepPower_57 ?_
      refine kCallV (As := [.int (nI h), .int ((x_1 &&& (-67108861)) ||| (x_4 &&& 67108860))]) (wc := [(ro, .inr (1, [.ref rb, .int sz])), (rb, .inl (cI, 64, .inl g))]) (wr := [(q, .inr (0, [.ref ro, .ref pa, .int kd, .int ds, .int en, .int pl, .int (nI h), .int gv, .int rp, .int mk, .int la]))]) (ws' := [(q, .inr (0, [.ref ro, .ref pa, .int kd, .int ds, .int en, .int pl, .int (nI h), .int gv, .int rp, .int mk, .int la])), (ro, .inr (1, [.ref rb, .int sz])), (rb, .inl (cI, 64, .inl (cSetHi g h ((x_1 &&& (-67108861)) ||| (x_4 &&& 67108860)))))]) (ci := 1) (C := RX1) ⟨hx, hb, hml, hown, hts⟩ (c_X1_setHighestFirst l D cI cF cJ ro rb 64 h g sz ((x_1 &&& (-67108861)) ||| (x_4 &&& 67108860)) (by omega) (by omega)) (cwV 2 hts gX0_stepPower_X1_setHighestFirst rfl rfl rfl (by decide +kernel) ⟨Nat.le_of_ble_eq_true rfl, Nat.le_of_ble_eq_true rfl⟩) hK hP hD hS hA [1, 2] [0] [0, 1, 2] rfl rfl rfl rfl (by decide) rfl rfl rfl rfl rfl hl.1 (Nat.le_of_ble_eq_true rfl) ⟨Nat.zero_le _, Nat.zero_le _⟩ dX0_stepPower_58 (fun H locs hP hD hS => ?_) rfl
      refine lv_aload_n hx hb dX0_stepPower_61 rfl (lv_at hl 2 rfl) ?_
      refine lv_dup hx hb dX0_stepPower_62 rfl ?_
      refine va_get (D := D) (ci := 0) (v := .int rp) (C := RX0) (T := TX0) (N := 11) hx hb hts inX0 hown hK hP 0 rfl rfl 8 (by decide) k_48 (fun _ h9 => h9) rfl dX0_stepPower_63 ?_
      refine lv_iconst (v := 1) hx hb dX0_stepPower_66 (by decide) ?_
      refine lv_iadd hx hb dX0_stepPower_67 ?_
      refine kPut (D := D) (ci := 0) (v := .int (rp + 1)) (ty := .int) (C := RX0) (T := TX0) (N := 11) (ws' := [(q, .inr (0, [.ref ro, .ref pa, .int kd, .int ds, .int en, .int pl, .int (nI h), .int gv, .int (rp + 1), .int mk, .int la])), (ro, .inr (1, [.ref rb, .int sz])), (rb, .inl (cI, 64, .inl (cSetHi g h ((x_1 &&& (-67108861)) ||| (x_4 &&& 67108860)))))]) hx hb hts inX0 tyX0 tyX0_ok nmX0 hown hK hP hD hS 0 rfl rfl 8 (by decide) k_48 rfl (by decide +kernel) (rfl) (by first | rfl | decide) (Nat.le_of_ble_eq_true rfl) rfl dX0_stepPower_68 (fun H locs hP hD hS => ?_)
      refine lv_iconst (v := 4) hx hb dX0_stepPower_71 (by decide) ?_
      subst e_4
      subst e_1
      have e9 : cPower en pl rp h g = (4, rp + 1, cSetHi g h (((cHi g h) &&& (-67108861)) ||| ((cMd en ((cHi g h) &&& 67108860) pl) &&& 67108860))) := (if_pos c_2).trans (if_pos c_3)
      exact hret _ _ _ _ _ dX0_stepPower_72 (by rw [e9]) (by rw [e9]; exact hP) (by rw [e9]; exact hD) hS

def cSparc (en : Int32) (pl : Int32) (rp : Int32) (h : Nat) (g : Nat → Int32) : Int32 × Int32 × (Nat → Int32) := (if (kU (cHi g h) 22) = 256 then (if (kU (kU (cMd en (4 * (cHi g h)) pl) 2) 22) &&& 1 = 1 then (4, rp + 1, cSetHi g h ((1073741824 ||| 1069547520) ||| ((kU (cMd en (4 * (cHi g h)) pl) 2) &&& 4194303))) else (4, rp + 1, cSetHi g h ((1073741824 ||| 0) ||| ((kU (cMd en (4 * (cHi g h)) pl) 2) &&& 4194303)))) else (if (kU (cHi g h) 22) = 511 then (if (kU (kU (cMd en (4 * (cHi g h)) pl) 2) 22) &&& 1 = 1 then (4, rp + 1, cSetHi g h ((1073741824 ||| 1069547520) ||| ((kU (cMd en (4 * (cHi g h)) pl) 2) &&& 4194303))) else (4, rp + 1, cSetHi g h ((1073741824 ||| 0) ||| ((kU (cMd en (4 * (cHi g h)) pl) 2) &&& 4194303)))) else (4, rp, g)))

set_option maxHeartbeats 4000000 in
set_option maxRecDepth 100000 in
/-- Filter.stepSparc() -/
theorem c_X0_stepSparc (l : Launch) (D : va_G) (cI cF cJ : ClassId) (q ro pa rb h : Nat) (kd ds en pl gv rp mk la sz : Int32) (g : Nat → Int32) (hk : h + 3 < 64) : kI l yX0_stepSparc wsX0_stepSparc ({ frames := 1, cells := 0, slots := 0, locals := 22 }) D (kTy cI cF cJ) [.ref q] [(q, .inr (0, [.ref ro, .ref pa, .int kd, .int ds, .int en, .int pl, .int (nI h), .int gv, .int rp, .int mk, .int la])), (ro, .inr (1, [.ref rb, .int sz])), (rb, .inl (cI, 64, .inl g))] [(q, .inr (0, [.ref ro, .ref pa, .int kd, .int ds, .int en, .int pl, .int (nI h), .int gv, .int ((cSparc en pl rp h g).2.1), .int mk, .int la])), (ro, .inr (1, [.ref rb, .int sz])), (rb, .inl (cI, 64, .inl ((cSparc en pl rp h g).2.2)))] ((cSparc en pl rp h g).1) := by
  refine kI_of (cc := cX0_stepSparc) (nL := 5) (ty := .int) (own := RX0) (lv := [(0, .ref q)]) (by decide) rfl rfl (Nat.le_of_ble_eq_true rfl) rfl (rfl) ?_
  intro p e s m args below meth c A ls Q C hA hK hP hD hS hl hret
  obtain ⟨hx, hb, hr, hml, hown, hts, hlocks⟩ := C
  have k_123 := hts (.constant RX0 123 (1069547520)) (by decide +kernel)
  have k_124 := hts (.constant RX0 124 (1073741824)) (by decide +kernel)
  have k_125 := hts (.constant RX0 125 (4194303)) (by decide +kernel)
  have k_14 := hts (.fieldLink RX0 14 "BranchFilters$Filter" "held" "LBranchFilters$Row;") (by decide +kernel)
  have k_42 := hts (.fieldLink RX0 42 "BranchFilters$Filter" "place" "I") (by decide +kernel)
  have k_48 := hts (.fieldLink RX0 48 "BranchFilters$Filter" "replaced" "I") (by decide +kernel)
  have k_65 := hts (.fieldLink RX0 65 "BranchFilters$Filter" "here" "I") (by decide +kernel)
  have inX0 : ∀ w ∈ wsX00, w ∈ wsX0_stepSparc := by decide +kernel
  refine lv_aload_n hx hb dX0_stepSparc_0 rfl (lv_at hl 0 rfl) ?_
  refine va_get (D := D) (ci := 0) (v := .ref ro) (C := RX0) (T := TX0) (N := 11) hx hb hts inX0 hown hK hP 0 rfl rfl 0 (by decide) k_14 (fun _ h9 => h9) rfl dX0_stepSparc_1 ?_
  refine lv_aload_n hx hb dX0_stepSparc_4 rfl (lv_at hl 0 rfl) ?_
  refine va_get (D := D) (ci := 0) (v := .int (nI h)) (C := RX0) (T := TX0) (N := 11) hx hb hts inX0 hown hK hP 0 rfl rfl 6 (by decide) k_65 (fun _ h9 => h9) rfl dX0_stepSparc_5 ?_
  refine kCallI (As := [.int (nI h)]) (wc := [(ro, .inr (1, [.ref rb, .int sz])), (rb, .inl (cI, 64, .inl g))]) (wr := [(q, .inr (0, [.ref ro, .ref pa, .int kd, .int ds, .int en, .int pl, .int (nI h), .int gv, .int rp, .int mk, .int la]))]) (ws' := [(q, .inr (0, [.ref ro, .ref pa, .int kd, .int ds, .int en, .int pl, .int (nI h), .int gv, .int rp, .int mk, .int la])), (ro, .inr (1, [.ref rb, .int sz])), (rb, .inl (cI, 64, .inl g))]) (ci := 1) (C := RX1) ⟨hx, hb, hml, hown, hts⟩ (c_X1_highestFirst l D cI cF cJ ro rb 64 h g sz (by omega) (by omega)) (cwV 1 hts gX0_stepSparc_X1_highestFirst rfl rfl rfl (by decide +kernel) ⟨Nat.le_of_ble_eq_true rfl, Nat.le_of_ble_eq_true rfl⟩) hK hP hD hS hA [1, 2] [0] [0, 1, 2] rfl rfl rfl rfl (by decide) rfl rfl rfl rfl rfl hl.1 (Nat.le_of_ble_eq_true rfl) ⟨Nat.zero_le _, Nat.zero_le _⟩ dX0_stepSparc_8 (fun H locs hP hD hS => ?_) rfl
  refine lv_topi (fun x_1 e_1 => ?_)
  refine lv_istore_n (lv' := [(1, .int x_1), (0, .ref q)]) hx hb dX0_stepSparc_11 rfl hl (by decide) rfl (fun ls hl => ?_)
  refine lv_iload_n hx hb dX0_stepSparc_12 rfl (lv_at hl 0 rfl) ?_
  refine lv_bipush (v := 22) hx hb dX0_stepSparc_13 (by decide) ?_
  refine lv_iushr (v := (kU x_1 22)) hx hb dX0_stepSparc_15 rfl ?_
  refine lv_topi (fun x_2 e_2 => ?_)
  refine lv_istore_n (lv' := [(2, .int x_2), (1, .int x_1), (0, .ref q)]) hx hb dX0_stepSparc_16 rfl hl (by decide) rfl (fun ls hl => ?_)
  refine lv_iload_n hx hb dX0_stepSparc_17 rfl (lv_at hl 0 rfl) ?_
  refine lv_sipush (v := 256) hx hb dX0_stepSparc_18 (by decide) ?_
  refine lv_icmp_eq (tgt := 31) hx hb dX0_stepSparc_21 (by decide) (fun c_3 => ?_) (fun c_3 => ?_)
  · refine lv_aload_n hx hb dX0_stepSparc_31 rfl (lv_at hl 2 rfl) ?_
    refine lv_iconst (v := 4) hx hb dX0_stepSparc_32 (by decide) ?_
    refine lv_iload_n hx hb dX0_stepSparc_33 rfl (lv_at hl 1 rfl) ?_
    refine lv_imul hx hb dX0_stepSparc_34 ?_
    refine lv_aload_n hx hb dX0_stepSparc_35 rfl (lv_at hl 2 rfl) ?_
    refine va_get (D := D) (ci := 0) (v := .int pl) (C := RX0) (T := TX0) (N := 11) hx hb hts inX0 hown hK hP 0 rfl rfl 5 (by decide) k_42 (fun _ h9 => h9) rfl dX0_stepSparc_36 ?_
    refine kCallI (As := [.int (4 * x_1), .int pl]) (wc := [(q, .inr (0, [.ref ro, .ref pa, .int kd, .int ds, .int en, .int pl, .int (nI h), .int gv, .int rp, .int mk, .int la]))]) (wr := [(ro, .inr (1, [.ref rb, .int sz])), (rb, .inl (cI, 64, .inl g))]) (ws' := [(q, .inr (0, [.ref ro, .ref pa, .int kd, .int ds, .int en, .int pl, .int (nI h), .int gv, .int rp, .int mk, .int la])), (ro, .inr (1, [.ref rb, .int sz])), (rb, .inl (cI, 64, .inl g))]) (ci := 0) (C := RX0) ⟨hx, hb, hml, hown, hts⟩ (c_X0_moved l D cI cF cJ q ro pa kd ds en pl (nI h) gv rp mk la (4 * x_1) pl ) (cwV 2 hts gX0_stepSparc_X0_moved rfl rfl rfl (by decide +kernel) ⟨Nat.le_of_ble_eq_true rfl, Nat.le_of_ble_eq_true rfl⟩) hK hP hD hS hA [0] [1, 2] [2, 0, 1] rfl rfl rfl rfl (by decide) rfl rfl rfl rfl rfl hl.1 (Nat.le_of_ble_eq_true rfl) ⟨Nat.zero_le _, Nat.zero_le _⟩ dX0_stepSparc_39 (fun H locs hP hD hS => ?_) rfl
    refine lv_iconst (v := 2) hx hb dX0_stepSparc_42 (by decide) ?_
    refine lv_iushr (v := (kU (cMd en (4 * x_1) pl) 2)) hx hb dX0_stepSparc_43 rfl ?_
    refine lv_topi (fun x_4 e_4 => ?_)
    refine lv_istore_n (lv' := [(3, .int x_4), (2, .int x_2), (1, .int x_1), (0, .ref q)]) hx hb dX0_stepSparc_44 rfl hl (by decide) rfl (fun ls hl => ?_)
    refine lv_iload_n hx hb dX0_stepSparc_45 rfl (lv_at hl 0 rfl) ?_
    refine lv_bipush (v := 22) hx hb dX0_stepSparc_46 (by decide) ?_
    refine lv_iushr (v := (kU x_4 22)) hx hb dX0_stepSparc_48 rfl ?_
    refine lv_iconst (v := 1) hx hb dX0_stepSparc_49 (by decide) ?_
    refine lv_iand hx hb dX0_stepSparc_50 ?_
    refine lv_iconst (v := 1) hx hb dX0_stepSparc_51 (by decide) ?_
    refine lv_icmp_ne (tgt := 60) hx hb dX0_stepSparc_52 (by decide) (fun c_5 => ?_) (fun c_5 => ?_)
    · refine lv_iconst (v := 0) hx hb dX0_stepSparc_60 (by decide) ?_
      refine lv_istore (lv' := [(4, .int 0), (3, .int x_4), (2, .int x_2), (1, .int x_1), (0, .ref q)]) hx hb dX0_stepSparc_61 hl (by decide) rfl (fun ls hl => ?_)
      refine lv_aload_n hx hb dX0_stepSparc_63 rfl (lv_at hl 4 rfl) ?_
      refine va_get (D := D) (ci := 0) (v := .ref ro) (C := RX0) (T := TX0) (N := 11) hx hb hts inX0 hown hK hP 0 rfl rfl 0 (by decide) k_14 (fun _ h9 => h9) rfl dX0_stepSparc_64 ?_
      refine lv_aload_n hx hb dX0_stepSparc_67 rfl (lv_at hl 4 rfl) ?_
      refine va_get (D := D) (ci := 0) (v := .int (nI h)) (C := RX0) (T := TX0) (N := 11) hx hb hts inX0 hown hK hP 0 rfl rfl 6 (by decide) k_65 (fun _ h9 => h9) rfl dX0_stepSparc_68 ?_
      refine lv_ldc (v := 1073741824) hx hb hown k_124 dX0_stepSparc_71 ?_
      refine lv_iload hx hb dX0_stepSparc_73 (lv_at hl 0 rfl) ?_
      refine lv_ior hx hb dX0_stepSparc_75 ?_
      refine lv_iload_n hx hb dX0_stepSparc_76 rfl (lv_at hl 1 rfl) ?_
      refine lv_ldc (v := 4194303) hx hb hown k_125 dX0_stepSparc_77 ?_
      refine lv_iand hx hb dX0_stepSparc_79 ?_
      refine lv_ior hx hb dX0_stepSparc_80 ?_
      refine kCallV (As := [.int (nI h), .int ((1073741824 ||| 0) ||| (x_4 &&& 4194303))]) (wc := [(ro, .inr (1, [.ref rb, .int sz])), (rb, .inl (cI, 64, .inl g))]) (wr := [(q, .inr (0, [.ref ro, .ref pa, .int kd, .int ds, .int en, .int pl, .int (nI h), .int gv, .int rp, .int mk, .int la]))]) (ws' := [(q, .inr (0, [.ref ro, .ref pa, .int kd, .int ds, .int en, .int pl, .int (nI h), .int gv, .int rp, .int mk, .int la])), (ro, .inr (1, [.ref rb, .int sz])), (rb, .inl (cI, 64, .inl (cSetHi g h ((1073741824 ||| 0) ||| (x_4 &&& 4194303)))))]) (ci := 1) (C := RX1) ⟨hx, hb, hml, hown, hts⟩ (c_X1_setHighestFirst l D cI cF cJ ro rb 64 h g sz ((1073741824 ||| 0) ||| (x_4 &&& 4194303)) (by omega) (by omega)) (cwV 2 hts gX0_stepSparc_X1_setHighestFirst rfl rfl rfl (by decide +kernel) ⟨Nat.le_of_ble_eq_true rfl, Nat.le_of_ble_eq_true rfl⟩) hK hP hD hS hA [1, 2] [0] [0, 1, 2] rfl rfl rfl rfl (by decide) rfl rfl rfl rfl rfl hl.1 (Nat.le_of_ble_eq_true rfl) ⟨Nat.zero_le _, Nat.zero_le _⟩ dX0_stepSparc_81 (fun H locs hP hD hS => ?_) rfl
      refine lv_aload_n hx hb dX0_stepSparc_84 rfl (lv_at hl 4 rfl) ?_
      refine lv_dup hx hb dX0_stepSparc_85 rfl ?_
      refine va_get (D := D) (ci := 0) (v := .int rp) (C := RX0) (T := TX0) (N := 11) hx hb hts inX0 hown hK hP 0 rfl rfl 8 (by decide) k_48 (fun _ h9 => h9) rfl dX0_stepSparc_86 ?_
      refine lv_iconst (v := 1) hx hb dX0_stepSparc_89 (by decide) ?_
      refine lv_iadd hx hb dX0_stepSparc_90 ?_
      refine kPut (D := D) (ci := 0) (v := .int (rp + 1)) (ty := .int) (C := RX0) (T := TX0) (N := 11) (ws' := [(q, .inr (0, [.ref ro, .ref pa, .int kd, .int ds, .int en, .int pl, .int (nI h), .int gv, .int (rp + 1), .int mk, .int la])), (ro, .inr (1, [.ref rb, .int sz])), (rb, .inl (cI, 64, .inl (cSetHi g h ((1073741824 ||| 0) ||| (x_4 &&& 4194303)))))]) hx hb hts inX0 tyX0 tyX0_ok nmX0 hown hK hP hD hS 0 rfl rfl 8 (by decide) k_48 rfl (by decide +kernel) (rfl) (by first | rfl | decide) (Nat.le_of_ble_eq_true rfl) rfl dX0_stepSparc_91 (fun H locs hP hD hS => ?_)
      refine lv_iconst (v := 4) hx hb dX0_stepSparc_94 (by decide) ?_
      subst e_4
      subst e_2
      subst e_1
      have e9 : cSparc en pl rp h g = (4, rp + 1, cSetHi g h ((1073741824 ||| 0) ||| ((kU (cMd en (4 * (cHi g h)) pl) 2) &&& 4194303))) := (if_pos c_3).trans (if_neg c_5)
      exact hret _ _ _ _ _ dX0_stepSparc_95 (by rw [e9]) (by rw [e9]; exact hP) (by rw [e9]; exact hD) hS
    · refine lv_ldc (v := 1069547520) hx hb hown k_123 dX0_stepSparc_55 ?_
      refine lv_goto (tgt := 61) hx hb dX0_stepSparc_57 (by decide) ?_
      refine lv_istore (lv' := [(4, .int 1069547520), (3, .int x_4), (2, .int x_2), (1, .int x_1), (0, .ref q)]) hx hb dX0_stepSparc_61 hl (by decide) rfl (fun ls hl => ?_)
      refine lv_aload_n hx hb dX0_stepSparc_63 rfl (lv_at hl 4 rfl) ?_
      refine va_get (D := D) (ci := 0) (v := .ref ro) (C := RX0) (T := TX0) (N := 11) hx hb hts inX0 hown hK hP 0 rfl rfl 0 (by decide) k_14 (fun _ h9 => h9) rfl dX0_stepSparc_64 ?_
      refine lv_aload_n hx hb dX0_stepSparc_67 rfl (lv_at hl 4 rfl) ?_
      refine va_get (D := D) (ci := 0) (v := .int (nI h)) (C := RX0) (T := TX0) (N := 11) hx hb hts inX0 hown hK hP 0 rfl rfl 6 (by decide) k_65 (fun _ h9 => h9) rfl dX0_stepSparc_68 ?_
      refine lv_ldc (v := 1073741824) hx hb hown k_124 dX0_stepSparc_71 ?_
      refine lv_iload hx hb dX0_stepSparc_73 (lv_at hl 0 rfl) ?_
      refine lv_ior hx hb dX0_stepSparc_75 ?_
      refine lv_iload_n hx hb dX0_stepSparc_76 rfl (lv_at hl 1 rfl) ?_
      refine lv_ldc (v := 4194303) hx hb hown k_125 dX0_stepSparc_77 ?_
      refine lv_iand hx hb dX0_stepSparc_79 ?_
      refine lv_ior hx hb dX0_stepSparc_80 ?_
      refine kCallV (As := [.int (nI h), .int ((1073741824 ||| 1069547520) ||| (x_4 &&& 4194303))]) (wc := [(ro, .inr (1, [.ref rb, .int sz])), (rb, .inl (cI, 64, .inl g))]) (wr := [(q, .inr (0, [.ref ro, .ref pa, .int kd, .int ds, .int en, .int pl, .int (nI h), .int gv, .int rp, .int mk, .int la]))]) (ws' := [(q, .inr (0, [.ref ro, .ref pa, .int kd, .int ds, .int en, .int pl, .int (nI h), .int gv, .int rp, .int mk, .int la])), (ro, .inr (1, [.ref rb, .int sz])), (rb, .inl (cI, 64, .inl (cSetHi g h ((1073741824 ||| 1069547520) ||| (x_4 &&& 4194303)))))]) (ci := 1) (C := RX1) ⟨hx, hb, hml, hown, hts⟩ (c_X1_setHighestFirst l D cI cF cJ ro rb 64 h g sz ((1073741824 ||| 1069547520) ||| (x_4 &&& 4194303)) (by omega) (by omega)) (cwV 2 hts gX0_stepSparc_X1_setHighestFirst rfl rfl rfl (by decide +kernel) ⟨Nat.le_of_ble_eq_true rfl, Nat.le_of_ble_eq_true rfl⟩) hK hP hD hS hA [1, 2] [0] [0, 1, 2] rfl rfl rfl rfl (by decide) rfl rfl rfl rfl rfl hl.1 (Nat.le_of_ble_eq_true rfl) ⟨Nat.zero_le _, Nat.zero_le _⟩ dX0_stepSparc_81 (fun H locs hP hD hS => ?_) rfl
      refine lv_aload_n hx hb dX0_stepSparc_84 rfl (lv_at hl 4 rfl) ?_
      refine lv_dup hx hb dX0_stepSparc_85 rfl ?_
      refine va_get (D := D) (ci := 0) (v := .int rp) (C := RX0) (T := TX0) (N := 11) hx hb hts inX0 hown hK hP 0 rfl rfl 8 (by decide) k_48 (fun _ h9 => h9) rfl dX0_stepSparc_86 ?_
      refine lv_iconst (v := 1) hx hb dX0_stepSparc_89 (by decide) ?_
      refine lv_iadd hx hb dX0_stepSparc_90 ?_
      refine kPut (D := D) (ci := 0) (v := .int (rp + 1)) (ty := .int) (C := RX0) (T := TX0) (N := 11) (ws' := [(q, .inr (0, [.ref ro, .ref pa, .int kd, .int ds, .int en, .int pl, .int (nI h), .int gv, .int (rp + 1), .int mk, .int la])), (ro, .inr (1, [.ref rb, .int sz])), (rb, .inl (cI, 64, .inl (cSetHi g h ((1073741824 ||| 1069547520) ||| (x_4 &&& 4194303)))))]) hx hb hts inX0 tyX0 tyX0_ok nmX0 hown hK hP hD hS 0 rfl rfl 8 (by decide) k_48 rfl (by decide +kernel) (rfl) (by first | rfl | decide) (Nat.le_of_ble_eq_true rfl) rfl dX0_stepSparc_91 (fun H locs hP hD hS => ?_)
      refine lv_iconst (v := 4) hx hb dX0_stepSparc_94 (by decide) ?_
      subst e_4
      subst e_2
      subst e_1
      have e9 : cSparc en pl rp h g = (4, rp + 1, cSetHi g h ((1073741824 ||| 1069547520) ||| ((kU (cMd en (4 * (cHi g h)) pl) 2) &&& 4194303))) := (if_pos c_3).trans (if_pos c_5)
      exact hret _ _ _ _ _ dX0_stepSparc_95 (by rw [e9]) (by rw [e9]; exact hP) (by rw [e9]; exact hD) hS
  · refine lv_iload_n hx hb dX0_stepSparc_24 rfl (lv_at hl 0 rfl) ?_
    refine lv_sipush (v := 511) hx hb dX0_stepSparc_25 (by decide) ?_
    refine lv_icmp_ne (tgt := 94) hx hb dX0_stepSparc_28 (by decide) (fun c_6 => ?_) (fun c_6 => ?_)
    · refine lv_iconst (v := 4) hx hb dX0_stepSparc_94 (by decide) ?_
      subst e_2
      subst e_1
      have e9 : cSparc en pl rp h g = (4, rp, g) := (if_neg c_3).trans (if_neg c_6)
      exact hret _ _ _ _ _ dX0_stepSparc_95 (by rw [e9]) (by rw [e9]; exact hP) (by rw [e9]; exact hD) hS
    · refine lv_aload_n hx hb dX0_stepSparc_31 rfl (lv_at hl 2 rfl) ?_
      refine lv_iconst (v := 4) hx hb dX0_stepSparc_32 (by decide) ?_
      refine lv_iload_n hx hb dX0_stepSparc_33 rfl (lv_at hl 1 rfl) ?_
      refine lv_imul hx hb dX0_stepSparc_34 ?_
      refine lv_aload_n hx hb dX0_stepSparc_35 rfl (lv_at hl 2 rfl) ?_
      refine va_get (D := D) (ci := 0) (v := .int pl) (C := RX0) (T := TX0) (N := 11) hx hb hts inX0 hown hK hP 0 rfl rfl 5 (by decide) k_42 (fun _ h9 => h9) rfl dX0_stepSparc_36 ?_
      refine kCallI (As := [.int (4 * x_1), .int pl]) (wc := [(q, .inr (0, [.ref ro, .ref pa, .int kd, .int ds, .int en, .int pl, .int (nI h), .int gv, .int rp, .int mk, .int la]))]) (wr := [(ro, .inr (1, [.ref rb, .int sz])), (rb, .inl (cI, 64, .inl g))]) (ws' := [(q, .inr (0, [.ref ro, .ref pa, .int kd, .int ds, .int en, .int pl, .int (nI h), .int gv, .int rp, .int mk, .int la])), (ro, .inr (1, [.ref rb, .int sz])), (rb, .inl (cI, 64, .inl g))]) (ci := 0) (C := RX0) ⟨hx, hb, hml, hown, hts⟩ (c_X0_moved l D cI cF cJ q ro pa kd ds en pl (nI h) gv rp mk la (4 * x_1) pl ) (cwV 2 hts gX0_stepSparc_X0_moved rfl rfl rfl (by decide +kernel) ⟨Nat.le_of_ble_eq_true rfl, Nat.le_of_ble_eq_true rfl⟩) hK hP hD hS hA [0] [1, 2] [2, 0, 1] rfl rfl rfl rfl (by decide) rfl rfl rfl rfl rfl hl.1 (Nat.le_of_ble_eq_true rfl) ⟨Nat.zero_le _, Nat.zero_le _⟩ dX0_stepSparc_39 (fun H locs hP hD hS => ?_) rfl
      refine lv_iconst (v := 2) hx hb dX0_stepSparc_42 (by decide) ?_
      refine lv_iushr (v := (kU (cMd en (4 * x_1) pl) 2)) hx hb dX0_stepSparc_43 rfl ?_
      refine lv_topi (fun x_7 e_7 => ?_)
      refine lv_istore_n (lv' := [(3, .int x_7), (2, .int x_2), (1, .int x_1), (0, .ref q)]) hx hb dX0_stepSparc_44 rfl hl (by decide) rfl (fun ls hl => ?_)
      refine lv_iload_n hx hb dX0_stepSparc_45 rfl (lv_at hl 0 rfl) ?_
      refine lv_bipush (v := 22) hx hb dX0_stepSparc_46 (by decide) ?_
      refine lv_iushr (v := (kU x_7 22)) hx hb dX0_stepSparc_48 rfl ?_
      refine lv_iconst (v := 1) hx hb dX0_stepSparc_49 (by decide) ?_
      refine lv_iand hx hb dX0_stepSparc_50 ?_
      refine lv_iconst (v := 1) hx hb dX0_stepSparc_51 (by decide) ?_
      refine lv_icmp_ne (tgt := 60) hx hb dX0_stepSparc_52 (by decide) (fun c_8 => ?_) (fun c_8 => ?_)
      · refine lv_iconst (v := 0) hx hb dX0_stepSparc_60 (by decide) ?_
        refine lv_istore (lv' := [(4, .int 0), (3, .int x_7), (2, .int x_2), (1, .int x_1), (0, .ref q)]) hx hb dX0_stepSparc_61 hl (by decide) rfl (fun ls hl => ?_)
        refine lv_aload_n hx hb dX0_stepSparc_63 rfl (lv_at hl 4 rfl) ?_
        refine va_get (D := D) (ci := 0) (v := .ref ro) (C := RX0) (T := TX0) (N := 11) hx hb hts inX0 hown hK hP 0 rfl rfl 0 (by decide) k_14 (fun _ h9 => h9) rfl dX0_stepSparc_64 ?_
        refine lv_aload_n hx hb dX0_stepSparc_67 rfl (lv_at hl 4 rfl) ?_
        refine va_get (D := D) (ci := 0) (v := .int (nI h)) (C := RX0) (T := TX0) (N := 11) hx hb hts inX0 hown hK hP 0 rfl rfl 6 (by decide) k_65 (fun _ h9 => h9) rfl dX0_stepSparc_68 ?_
        refine lv_ldc (v := 1073741824) hx hb hown k_124 dX0_stepSparc_71 ?_
        refine lv_iload hx hb dX0_stepSparc_73 (lv_at hl 0 rfl) ?_
        refine lv_ior hx hb dX0_stepSparc_75 ?_
        refine lv_iload_n hx hb dX0_stepSparc_76 rfl (lv_at hl 1 rfl) ?_
        refine lv_ldc (v := 4194303) hx hb hown k_125 dX0_stepSparc_77 ?_
        refine lv_iand hx hb dX0_stepSparc_79 ?_
        refine lv_ior hx hb dX0_stepSparc_80 ?_
        refine kCallV (As := [.int (nI h), .int ((1073741824 ||| 0) ||| (x_7 &&& 4194303))]) (wc := [(ro, .inr (1, [.ref rb, .int sz])), (rb, .inl (cI, 64, .inl g))]) (wr := [(q, .inr (0, [.ref ro, .ref pa, .int kd, .int ds, .int en, .int pl, .int (nI h), .int gv, .int rp, .int mk, .int la]))]) (ws' := [(q, .inr (0, [.ref ro, .ref pa, .int kd, .int ds, .int en, .int pl, .int (nI h), .int gv, .int rp, .int mk, .int la])), (ro, .inr (1, [.ref rb, .int sz])), (rb, .inl (cI, 64, .inl (cSetHi g h ((1073741824 ||| 0) ||| (x_7 &&& 4194303)))))]) (ci := 1) (C := RX1) ⟨hx, hb, hml, hown, hts⟩ (c_X1_setHighestFirst l D cI cF cJ ro rb 64 h g sz ((1073741824 ||| 0) ||| (x_7 &&& 4194303)) (by omega) (by omega)) (cwV 2 hts gX0_stepSparc_X1_setHighestFirst rfl rfl rfl (by decide +kernel) ⟨Nat.le_of_ble_eq_true rfl, Nat.le_of_ble_eq_true rfl⟩) hK hP hD hS hA [1, 2] [0] [0, 1, 2] rfl rfl rfl rfl (by decide) rfl rfl rfl rfl rfl hl.1 (Nat.le_of_ble_eq_true rfl) ⟨Nat.zero_le _, Nat.zero_le _⟩ dX0_stepSparc_81 (fun H locs hP hD hS => ?_) rfl
        refine lv_aload_n hx hb dX0_stepSparc_84 rfl (lv_at hl 4 rfl) ?_
        refine lv_dup hx hb dX0_stepSparc_85 rfl ?_
        refine va_get (D := D) (ci := 0) (v := .int rp) (C := RX0) (T := TX0) (N := 11) hx hb hts inX0 hown hK hP 0 rfl rfl 8 (by decide) k_48 (fun _ h9 => h9) rfl dX0_stepSparc_86 ?_
        refine lv_iconst (v := 1) hx hb dX0_stepSparc_89 (by decide) ?_
        refine lv_iadd hx hb dX0_stepSparc_90 ?_
        refine kPut (D := D) (ci := 0) (v := .int (rp + 1)) (ty := .int) (C := RX0) (T := TX0) (N := 11) (ws' := [(q, .inr (0, [.ref ro, .ref pa, .int kd, .int ds, .int en, .int pl, .int (nI h), .int gv, .int (rp + 1), .int mk, .int la])), (ro, .inr (1, [.ref rb, .int sz])), (rb, .inl (cI, 64, .inl (cSetHi g h ((1073741824 ||| 0) ||| (x_7 &&& 4194303)))))]) hx hb hts inX0 tyX0 tyX0_ok nmX0 hown hK hP hD hS 0 rfl rfl 8 (by decide) k_48 rfl (by decide +kernel) (rfl) (by first | rfl | decide) (Nat.le_of_ble_eq_true rfl) rfl dX0_stepSparc_91 (fun H locs hP hD hS => ?_)
        refine lv_iconst (v := 4) hx hb dX0_stepSparc_94 (by decide) ?_
        subst e_7
        subst e_2
        subst e_1
        have e9 : cSparc en pl rp h g = (4, rp + 1, cSetHi g h ((1073741824 ||| 0) ||| ((kU (cMd en (4 * (cHi g h)) pl) 2) &&& 4194303))) := (if_neg c_3).trans ((if_pos c_6).trans (if_neg c_8))
        exact hret _ _ _ _ _ dX0_stepSparc_95 (by rw [e9]) (by rw [e9]; exact hP) (by rw [e9]; exact hD) hS
      · refine lv_ldc (v := 1069547520) hx hb hown k_123 dX0_stepSparc_55 ?_
        refine lv_goto (tgt := 61) hx hb dX0_stepSparc_57 (by decide) ?_
        refine lv_istore (lv' := [(4, .int 1069547520), (3, .int x_7), (2, .int x_2), (1, .int x_1), (0, .ref q)]) hx hb dX0_stepSparc_61 hl (by decide) rfl (fun ls hl => ?_)
        refine lv_aload_n hx hb dX0_stepSparc_63 rfl (lv_at hl 4 rfl) ?_
        refine va_get (D := D) (ci := 0) (v := .ref ro) (C := RX0) (T := TX0) (N := 11) hx hb hts inX0 hown hK hP 0 rfl rfl 0 (by decide) k_14 (fun _ h9 => h9) rfl dX0_stepSparc_64 ?_
        refine lv_aload_n hx hb dX0_stepSparc_67 rfl (lv_at hl 4 rfl) ?_
        refine va_get (D := D) (ci := 0) (v := .int (nI h)) (C := RX0) (T := TX0) (N := 11) hx hb hts inX0 hown hK hP 0 rfl rfl 6 (by decide) k_65 (fun _ h9 => h9) rfl dX0_stepSparc_68 ?_
        refine lv_ldc (v := 1073741824) hx hb hown k_124 dX0_stepSparc_71 ?_
        refine lv_iload hx hb dX0_stepSparc_73 (lv_at hl 0 rfl) ?_
        refine lv_ior hx hb dX0_stepSparc_75 ?_
        refine lv_iload_n hx hb dX0_stepSparc_76 rfl (lv_at hl 1 rfl) ?_
        refine lv_ldc (v := 4194303) hx hb hown k_125 dX0_stepSparc_77 ?_
        refine lv_iand hx hb dX0_stepSparc_79 ?_
        refine lv_ior hx hb dX0_stepSparc_80 ?_
        refine kCallV (As := [.int (nI h), .int ((1073741824 ||| 1069547520) ||| (x_7 &&& 4194303))]) (wc := [(ro, .inr (1, [.ref rb, .int sz])), (rb, .inl (cI, 64, .inl g))]) (wr := [(q, .inr (0, [.ref ro, .ref pa, .int kd, .int ds, .int en, .int pl, .int (nI h), .int gv, .int rp, .int mk, .int la]))]) (ws' := [(q, .inr (0, [.ref ro, .ref pa, .int kd, .int ds, .int en, .int pl, .int (nI h), .int gv, .int rp, .int mk, .int la])), (ro, .inr (1, [.ref rb, .int sz])), (rb, .inl (cI, 64, .inl (cSetHi g h ((1073741824 ||| 1069547520) ||| (x_7 &&& 4194303)))))]) (ci := 1) (C := RX1) ⟨hx, hb, hml, hown, hts⟩ (c_X1_setHighestFirst l D cI cF cJ ro rb 64 h g sz ((1073741824 ||| 1069547520) ||| (x_7 &&& 4194303)) (by omega) (by omega)) (cwV 2 hts gX0_stepSparc_X1_setHighestFirst rfl rfl rfl (by decide +kernel) ⟨Nat.le_of_ble_eq_true rfl, Nat.le_of_ble_eq_true rfl⟩) hK hP hD hS hA [1, 2] [0] [0, 1, 2] rfl rfl rfl rfl (by decide) rfl rfl rfl rfl rfl hl.1 (Nat.le_of_ble_eq_true rfl) ⟨Nat.zero_le _, Nat.zero_le _⟩ dX0_stepSparc_81 (fun H locs hP hD hS => ?_) rfl
        refine lv_aload_n hx hb dX0_stepSparc_84 rfl (lv_at hl 4 rfl) ?_
        refine lv_dup hx hb dX0_stepSparc_85 rfl ?_
        refine va_get (D := D) (ci := 0) (v := .int rp) (C := RX0) (T := TX0) (N := 11) hx hb hts inX0 hown hK hP 0 rfl rfl 8 (by decide) k_48 (fun _ h9 => h9) rfl dX0_stepSparc_86 ?_
        refine lv_iconst (v := 1) hx hb dX0_stepSparc_89 (by decide) ?_
        refine lv_iadd hx hb dX0_stepSparc_90 ?_
        refine kPut (D := D) (ci := 0) (v := .int (rp + 1)) (ty := .int) (C := RX0) (T := TX0) (N := 11) (ws' := [(q, .inr (0, [.ref ro, .ref pa, .int kd, .int ds, .int en, .int pl, .int (nI h), .int gv, .int (rp + 1), .int mk, .int la])), (ro, .inr (1, [.ref rb, .int sz])), (rb, .inl (cI, 64, .inl (cSetHi g h ((1073741824 ||| 1069547520) ||| (x_7 &&& 4194303)))))]) hx hb hts inX0 tyX0 tyX0_ok nmX0 hown hK hP hD hS 0 rfl rfl 8 (by decide) k_48 rfl (by decide +kernel) (rfl) (by first | rfl | decide) (Nat.le_of_ble_eq_true rfl) rfl dX0_stepSparc_91 (fun H locs hP hD hS => ?_)
        refine lv_iconst (v := 4) hx hb dX0_stepSparc_94 (by decide) ?_
        subst e_7
        subst e_2
        subst e_1
        have e9 : cSparc en pl rp h g = (4, rp + 1, cSetHi g h ((1073741824 ||| 1069547520) ||| ((kU (cMd en (4 * (cHi g h)) pl) 2) &&& 4194303))) := (if_neg c_3).trans ((if_pos c_6).trans (if_pos c_8))
        exact hret _ _ _ _ _ dX0_stepSparc_95 (by rw [e9]) (by rw [e9]; exact hP) (by rw [e9]; exact hD) hS

def cRj (en : Int32) (pl : Int32) (rp : Int32) (w : Int32) (h : Nat) (g : Nat → Int32) : Int32 × (Nat → Int32) := (rp + 1, cSetLo g h ((w &&& 4095) ||| ((((((kU (cMd en (((((kU w 31) <<< ((20 : Int32) &&& 31)) ||| (w &&& 1044480)) ||| (((kU w 20) &&& 1) <<< ((11 : Int32) &&& 31))) ||| (((kU w 21) &&& 1023) <<< ((1 : Int32) &&& 31))) pl) 20) &&& 1) <<< ((31 : Int32) &&& 31)) ||| (((kU (cMd en (((((kU w 31) <<< ((20 : Int32) &&& 31)) ||| (w &&& 1044480)) ||| (((kU w 20) &&& 1) <<< ((11 : Int32) &&& 31))) ||| (((kU w 21) &&& 1023) <<< ((1 : Int32) &&& 31))) pl) 1) &&& 1023) <<< ((21 : Int32) &&& 31))) ||| (((kU (cMd en (((((kU w 31) <<< ((20 : Int32) &&& 31)) ||| (w &&& 1044480)) ||| (((kU w 20) &&& 1) <<< ((11 : Int32) &&& 31))) ||| (((kU w 21) &&& 1023) <<< ((1 : Int32) &&& 31))) pl) 11) &&& 1) <<< ((20 : Int32) &&& 31))) ||| ((cMd en (((((kU w 31) <<< ((20 : Int32) &&& 31)) ||| (w &&& 1044480)) ||| (((kU w 20) &&& 1) <<< ((11 : Int32) &&& 31))) ||| (((kU w 21) &&& 1023) <<< ((1 : Int32) &&& 31))) pl) &&& 1044480))))

set_option maxHeartbeats 4000000 in
set_option maxRecDepth 100000 in
/-- Filter.replaceRiscJump(w) -/
theorem c_X0_replaceRiscJump (l : Launch) (D : va_G) (cI cF cJ : ClassId) (q ro pa rb h : Nat) (kd ds en pl gv rp mk la sz : Int32) (g : Nat → Int32) (w : Int32) (hk : h + 3 < 64) : kV l yX0_replaceRiscJump wsX0_replaceRiscJump ({ frames := 1, cells := 0, slots := 0, locals := 22 }) D (kTy cI cF cJ) [.ref q, .int w] [(q, .inr (0, [.ref ro, .ref pa, .int kd, .int ds, .int en, .int pl, .int (nI h), .int gv, .int rp, .int mk, .int la])), (ro, .inr (1, [.ref rb, .int sz])), (rb, .inl (cI, 64, .inl g))] [(q, .inr (0, [.ref ro, .ref pa, .int kd, .int ds, .int en, .int pl, .int (nI h), .int gv, .int ((cRj en pl rp w h g).1), .int mk, .int la])), (ro, .inr (1, [.ref rb, .int sz])), (rb, .inl (cI, 64, .inl ((cRj en pl rp w h g).2)))] := by
  refine kV_of (cc := cX0_replaceRiscJump) (nL := 5) (own := RX0) (lv := [(0, .ref q), (1, .int w)]) (by decide) rfl rfl (Nat.le_of_ble_eq_true rfl) rfl ?_
  intro p e s m args below meth c A ls Q C hA hK hP hD hS hl hret
  obtain ⟨hx, hb, hr, hml, hown, hts, hlocks⟩ := C
  have k_133 := hts (.constant RX0 133 (1044480)) (by decide +kernel)
  have k_14 := hts (.fieldLink RX0 14 "BranchFilters$Filter" "held" "LBranchFilters$Row;") (by decide +kernel)
  have k_42 := hts (.fieldLink RX0 42 "BranchFilters$Filter" "place" "I") (by decide +kernel)
  have k_48 := hts (.fieldLink RX0 48 "BranchFilters$Filter" "replaced" "I") (by decide +kernel)
  have k_65 := hts (.fieldLink RX0 65 "BranchFilters$Filter" "here" "I") (by decide +kernel)
  have inX0 : ∀ w ∈ wsX00, w ∈ wsX0_replaceRiscJump := by decide +kernel
  refine lv_iload_n hx hb dX0_replaceRiscJump_0 rfl (lv_at hl 1 rfl) ?_
  refine lv_bipush (v := 31) hx hb dX0_replaceRiscJump_1 (by decide) ?_
  refine lv_iushr (v := (kU w 31)) hx hb dX0_replaceRiscJump_3 rfl ?_
  refine lv_bipush (v := 20) hx hb dX0_replaceRiscJump_4 (by decide) ?_
  refine lv_ishl hx hb dX0_replaceRiscJump_6 ?_
  refine lv_iload_n hx hb dX0_replaceRiscJump_7 rfl (lv_at hl 1 rfl) ?_
  refine lv_ldc (v := 1044480) hx hb hown k_133 dX0_replaceRiscJump_8 ?_
  refine lv_iand hx hb dX0_replaceRiscJump_10 ?_
  refine lv_ior hx hb dX0_replaceRiscJump_11 ?_
  refine lv_iload_n hx hb dX0_replaceRiscJump_12 rfl (lv_at hl 1 rfl) ?_
  refine lv_bipush (v := 20) hx hb dX0_replaceRiscJump_13 (by decide) ?_
  refine lv_iushr (v := (kU w 20)) hx hb dX0_replaceRiscJump_15 rfl ?_
  refine lv_iconst (v := 1) hx hb dX0_replaceRiscJump_16 (by decide) ?_
  refine lv_iand hx hb dX0_replaceRiscJump_17 ?_
  refine lv_bipush (v := 11) hx hb dX0_replaceRiscJump_18 (by decide) ?_
  refine lv_ishl hx hb dX0_replaceRiscJump_20 ?_
  refine lv_ior hx hb dX0_replaceRiscJump_21 ?_
  refine lv_iload_n hx hb dX0_replaceRiscJump_22 rfl (lv_at hl 1 rfl) ?_
  refine lv_bipush (v := 21) hx hb dX0_replaceRiscJump_23 (by decide) ?_
  refine lv_iushr (v := (kU w 21)) hx hb dX0_replaceRiscJump_25 rfl ?_
  refine lv_sipush (v := 1023) hx hb dX0_replaceRiscJump_26 (by decide) ?_
  refine lv_iand hx hb dX0_replaceRiscJump_29 ?_
  refine lv_iconst (v := 1) hx hb dX0_replaceRiscJump_30 (by decide) ?_
  refine lv_ishl hx hb dX0_replaceRiscJump_31 ?_
  refine lv_ior hx hb dX0_replaceRiscJump_32 ?_
  refine lv_topi (fun x_1 e_1 => ?_)
  refine lv_istore_n (lv' := [(2, .int x_1), (0, .ref q), (1, .int w)]) hx hb dX0_replaceRiscJump_33 rfl hl (by decide) rfl (fun ls hl => ?_)
  refine lv_aload_n hx hb dX0_replaceRiscJump_34 rfl (lv_at hl 1 rfl) ?_
  refine lv_iload_n hx hb dX0_replaceRiscJump_35 rfl (lv_at hl 0 rfl) ?_
  refine lv_aload_n hx hb dX0_replaceRiscJump_36 rfl (lv_at hl 1 rfl) ?_
  refine va_get (D := D) (ci := 0) (v := .int pl) (C := RX0) (T := TX0) (N := 11) hx hb hts inX0 hown hK hP 0 rfl rfl 5 (by decide) k_42 (fun _ h9 => h9) rfl dX0_replaceRiscJump_37 ?_
  refine kCallI (As := [.int x_1, .int pl]) (wc := [(q, .inr (0, [.ref ro, .ref pa, .int kd, .int ds, .int en, .int pl, .int (nI h), .int gv, .int rp, .int mk, .int la]))]) (wr := [(ro, .inr (1, [.ref rb, .int sz])), (rb, .inl (cI, 64, .inl g))]) (ws' := [(q, .inr (0, [.ref ro, .ref pa, .int kd, .int ds, .int en, .int pl, .int (nI h), .int gv, .int rp, .int mk, .int la])), (ro, .inr (1, [.ref rb, .int sz])), (rb, .inl (cI, 64, .inl g))]) (ci := 0) (C := RX0) ⟨hx, hb, hml, hown, hts⟩ (c_X0_moved l D cI cF cJ q ro pa kd ds en pl (nI h) gv rp mk la x_1 pl ) (cwV 2 hts gX0_replaceRiscJump_X0_moved rfl rfl rfl (by decide +kernel) ⟨Nat.le_of_ble_eq_true rfl, Nat.le_of_ble_eq_true rfl⟩) hK hP hD hS hA [0] [1, 2] [2, 0, 1] rfl rfl rfl rfl (by decide) rfl rfl rfl rfl rfl hl.1 (Nat.le_of_ble_eq_true rfl) ⟨Nat.zero_le _, Nat.zero_le _⟩ dX0_replaceRiscJump_40 (fun H locs hP hD hS => ?_) rfl
  refine lv_topi (fun x_2 e_2 => ?_)
  refine lv_istore_n (lv' := [(3, .int x_2), (2, .int x_1), (0, .ref q), (1, .int w)]) hx hb dX0_replaceRiscJump_43 rfl hl (by decide) rfl (fun ls hl => ?_)
  refine lv_iload_n hx hb dX0_replaceRiscJump_44 rfl (lv_at hl 0 rfl) ?_
  refine lv_bipush (v := 20) hx hb dX0_replaceRiscJump_45 (by decide) ?_
  refine lv_iushr (v := (kU x_2 20)) hx hb dX0_replaceRiscJump_47 rfl ?_
  refine lv_iconst (v := 1) hx hb dX0_replaceRiscJump_48 (by decide) ?_
  refine lv_iand hx hb dX0_replaceRiscJump_49 ?_
  refine lv_bipush (v := 31) hx hb dX0_replaceRiscJump_50 (by decide) ?_
  refine lv_ishl hx hb dX0_replaceRiscJump_52 ?_
  refine lv_iload_n hx hb dX0_replaceRiscJump_53 rfl (lv_at hl 0 rfl) ?_
  refine lv_iconst (v := 1) hx hb dX0_replaceRiscJump_54 (by decide) ?_
  refine lv_iushr (v := (kU x_2 1)) hx hb dX0_replaceRiscJump_55 rfl ?_
  refine lv_sipush (v := 1023) hx hb dX0_replaceRiscJump_56 (by decide) ?_
  refine lv_iand hx hb dX0_replaceRiscJump_59 ?_
  refine lv_bipush (v := 21) hx hb dX0_replaceRiscJump_60 (by decide) ?_
  refine lv_ishl hx hb dX0_replaceRiscJump_62 ?_
  refine lv_ior hx hb dX0_replaceRiscJump_63 ?_
  refine lv_iload_n hx hb dX0_replaceRiscJump_64 rfl (lv_at hl 0 rfl) ?_
  refine lv_bipush (v := 11) hx hb dX0_replaceRiscJump_65 (by decide) ?_
  refine lv_iushr (v := (kU x_2 11)) hx hb dX0_replaceRiscJump_67 rfl ?_
  refine lv_iconst (v := 1) hx hb dX0_replaceRiscJump_68 (by decide) ?_
  refine lv_iand hx hb dX0_replaceRiscJump_69 ?_
  refine lv_bipush (v := 20) hx hb dX0_replaceRiscJump_70 (by decide) ?_
  refine lv_ishl hx hb dX0_replaceRiscJump_72 ?_
  refine lv_ior hx hb dX0_replaceRiscJump_73 ?_
  refine lv_iload_n hx hb dX0_replaceRiscJump_74 rfl (lv_at hl 0 rfl) ?_
  refine lv_ldc (v := 1044480) hx hb hown k_133 dX0_replaceRiscJump_75 ?_
  refine lv_iand hx hb dX0_replaceRiscJump_77 ?_
  refine lv_ior hx hb dX0_replaceRiscJump_78 ?_
  refine lv_topi (fun x_3 e_3 => ?_)
  refine lv_istore (lv' := [(4, .int x_3), (3, .int x_2), (2, .int x_1), (0, .ref q), (1, .int w)]) hx hb dX0_replaceRiscJump_79 hl (by decide) rfl (fun ls hl => ?_)
  refine lv_aload_n hx hb dX0_replaceRiscJump_81 rfl (lv_at hl 3 rfl) ?_
  refine va_get (D := D) (ci := 0) (v := .ref ro) (C := RX0) (T := TX0) (N := 11) hx hb hts inX0 hown hK hP 0 rfl rfl 0 (by decide) k_14 (fun _ h9 => h9) rfl dX0_replaceRiscJump_82 ?_
  refine lv_aload_n hx hb dX0_replaceRiscJump_85 rfl (lv_at hl 3 rfl) ?_
  refine va_get (D := D) (ci := 0) (v := .int (nI h)) (C := RX0) (T := TX0) (N := 11) hx hb hts inX0 hown hK hP 0 rfl rfl 6 (by decide) k_65 (fun _ h9 => h9) rfl dX0_replaceRiscJump_86 ?_
  refine lv_iload_n hx hb dX0_replaceRiscJump_89 rfl (lv_at hl 4 rfl) ?_
  refine lv_sipush (v := 4095) hx hb dX0_replaceRiscJump_90 (by decide) ?_
  refine lv_iand hx hb dX0_replaceRiscJump_93 ?_
  refine lv_iload hx hb dX0_replaceRiscJump_94 (lv_at hl 0 rfl) ?_
  refine lv_ior hx hb dX0_replaceRiscJump_96 ?_
  refine kCallV (As := [.int (nI h), .int ((w &&& 4095) ||| x_3)]) (wc := [(ro, .inr (1, [.ref rb, .int sz])), (rb, .inl (cI, 64, .inl g))]) (wr := [(q, .inr (0, [.ref ro, .ref pa, .int kd, .int ds, .int en, .int pl, .int (nI h), .int gv, .int rp, .int mk, .int la]))]) (ws' := [(q, .inr (0, [.ref ro, .ref pa, .int kd, .int ds, .int en, .int pl, .int (nI h), .int gv, .int rp, .int mk, .int la])), (ro, .inr (1, [.ref rb, .int sz])), (rb, .inl (cI, 64, .inl (cSetLo g h ((w &&& 4095) ||| x_3))))]) (ci := 1) (C := RX1) ⟨hx, hb, hml, hown, hts⟩ (c_X1_setLowestFirst l D cI cF cJ ro rb 64 h g sz ((w &&& 4095) ||| x_3) (by omega) (by omega)) (cwV 2 hts gX0_replaceRiscJump_X1_setLowestFirst rfl rfl rfl (by decide +kernel) ⟨Nat.le_of_ble_eq_true rfl, Nat.le_of_ble_eq_true rfl⟩) hK hP hD hS hA [1, 2] [0] [0, 1, 2] rfl rfl rfl rfl (by decide) rfl rfl rfl rfl rfl hl.1 (Nat.le_of_ble_eq_true rfl) ⟨Nat.zero_le _, Nat.zero_le _⟩ dX0_replaceRiscJump_97 (fun H locs hP hD hS => ?_) rfl
  refine lv_aload_n hx hb dX0_replaceRiscJump_100 rfl (lv_at hl 3 rfl) ?_
  refine lv_dup hx hb dX0_replaceRiscJump_101 rfl ?_
  refine va_get (D := D) (ci := 0) (v := .int rp) (C := RX0) (T := TX0) (N := 11) hx hb hts inX0 hown hK hP 0 rfl rfl 8 (by decide) k_48 (fun _ h9 => h9) rfl dX0_replaceRiscJump_102 ?_
  refine lv_iconst (v := 1) hx hb dX0_replaceRiscJump_105 (by decide) ?_
  refine lv_iadd hx hb dX0_replaceRiscJump_106 ?_
  refine kPut (D := D) (ci := 0) (v := .int (rp + 1)) (ty := .int) (C := RX0) (T := TX0) (N := 11) (ws' := [(q, .inr (0, [.ref ro, .ref pa, .int kd, .int ds, .int en, .int pl, .int (nI h), .int gv, .int (rp + 1), .int mk, .int la])), (ro, .inr (1, [.ref rb, .int sz])), (rb, .inl (cI, 64, .inl (cSetLo g h ((w &&& 4095) ||| x_3))))]) hx hb hts inX0 tyX0 tyX0_ok nmX0 hown hK hP hD hS 0 rfl rfl 8 (by decide) k_48 rfl (by decide +kernel) (rfl) (by first | rfl | decide) (Nat.le_of_ble_eq_true rfl) rfl dX0_replaceRiscJump_107 (fun H locs hP hD hS => ?_)
  subst e_3
  subst e_2
  subst e_1
  have e9 : cRj en pl rp w h g = (rp + 1, cSetLo g h ((w &&& 4095) ||| ((((((kU (cMd en (((((kU w 31) <<< ((20 : Int32) &&& 31)) ||| (w &&& 1044480)) ||| (((kU w 20) &&& 1) <<< ((11 : Int32) &&& 31))) ||| (((kU w 21) &&& 1023) <<< ((1 : Int32) &&& 31))) pl) 20) &&& 1) <<< ((31 : Int32) &&& 31)) ||| (((kU (cMd en (((((kU w 31) <<< ((20 : Int32) &&& 31)) ||| (w &&& 1044480)) ||| (((kU w 20) &&& 1) <<< ((11 : Int32) &&& 31))) ||| (((kU w 21) &&& 1023) <<< ((1 : Int32) &&& 31))) pl) 1) &&& 1023) <<< ((21 : Int32) &&& 31))) ||| (((kU (cMd en (((((kU w 31) <<< ((20 : Int32) &&& 31)) ||| (w &&& 1044480)) ||| (((kU w 20) &&& 1) <<< ((11 : Int32) &&& 31))) ||| (((kU w 21) &&& 1023) <<< ((1 : Int32) &&& 31))) pl) 11) &&& 1) <<< ((20 : Int32) &&& 31))) ||| ((cMd en (((((kU w 31) <<< ((20 : Int32) &&& 31)) ||| (w &&& 1044480)) ||| (((kU w 20) &&& 1) <<< ((11 : Int32) &&& 31))) ||| (((kU w 21) &&& 1023) <<< ((1 : Int32) &&& 31))) pl) &&& 1044480)))) := rfl
  exact hret _ _ _ _ dX0_replaceRiscJump_110 (by rw [e9]; exact hP) (by rw [e9]; exact hD) hS

def cRp (en : Int32) (pl : Int32) (rp : Int32) (w : Int32) (v : Int32) (r : Int32) (h : Nat) (g : Nat → Int32) : Int32 × (Nat → Int32) := (if (kU v 15) &&& 31 = r then (if (v &&& 127) = 103 then (rp + 1, cSetLo (cSetLo g h ((w &&& 4095) ||| (((cMd en ((w &&& (-4096)) + (v >>> ((20 : Int32) &&& 31))) pl) + 2048) &&& (-4096)))) (h + 4) ((v &&& 1048575) ||| ((cMd en ((w &&& (-4096)) + (v >>> ((20 : Int32) &&& 31))) pl) <<< ((20 : Int32) &&& 31)))) else (if (v &&& 127) = 3 then (rp + 1, cSetLo (cSetLo g h ((w &&& 4095) ||| (((cMd en ((w &&& (-4096)) + (v >>> ((20 : Int32) &&& 31))) pl) + 2048) &&& (-4096)))) (h + 4) ((v &&& 1048575) ||| ((cMd en ((w &&& (-4096)) + (v >>> ((20 : Int32) &&& 31))) pl) <<< ((20 : Int32) &&& 31)))) else (rp, g))) else (rp, g))

set_option maxHeartbeats 4000000 in
set_option maxRecDepth 100000 in
/-- Filter.replaceRiscPair(w, v, r) -/
theorem c_X0_replaceRiscPair (l : Launch) (D : va_G) (cI cF cJ : ClassId) (q ro pa rb h : Nat) (kd ds en pl gv rp mk la sz : Int32) (g : Nat → Int32) (w v r : Int32) (hk : h + 7 < 64) : kV l yX0_replaceRiscPair wsX0_replaceRiscPair ({ frames := 1, cells := 0, slots := 0, locals := 22 }) D (kTy cI cF cJ) [.ref q, .int w, .int v, .int r] [(q, .inr (0, [.ref ro, .ref pa, .int kd, .int ds, .int en, .int pl, .int (nI h), .int gv, .int rp, .int mk, .int la])), (ro, .inr (1, [.ref rb, .int sz])), (rb, .inl (cI, 64, .inl g))] [(q, .inr (0, [.ref ro, .ref pa, .int kd, .int ds, .int en, .int pl, .int (nI h), .int gv, .int ((cRp en pl rp w v r h g).1), .int mk, .int la])), (ro, .inr (1, [.ref rb, .int sz])), (rb, .inl (cI, 64, .inl ((cRp en pl rp w v r h g).2)))] := by
  refine kV_of (cc := cX0_replaceRiscPair) (nL := 7) (own := RX0) (lv := [(0, .ref q), (1, .int w), (2, .int v), (3, .int r)]) (by decide) rfl rfl (Nat.le_of_ble_eq_true rfl) rfl ?_
  intro p e s m args below meth c A ls Q C hA hK hP hD hS hl hret
  obtain ⟨hx, hb, hr, hml, hown, hts, hlocks⟩ := C
  have k_134 := hts (.constant RX0 134 (1048575)) (by decide +kernel)
  have k_14 := hts (.fieldLink RX0 14 "BranchFilters$Filter" "held" "LBranchFilters$Row;") (by decide +kernel)
  have k_42 := hts (.fieldLink RX0 42 "BranchFilters$Filter" "place" "I") (by decide +kernel)
  have k_48 := hts (.fieldLink RX0 48 "BranchFilters$Filter" "replaced" "I") (by decide +kernel)
  have k_65 := hts (.fieldLink RX0 65 "BranchFilters$Filter" "here" "I") (by decide +kernel)
  have inX0 : ∀ w ∈ wsX00, w ∈ wsX0_replaceRiscPair := by decide +kernel
  refine lv_iload_n hx hb dX0_replaceRiscPair_0 rfl (lv_at hl 2 rfl) ?_
  refine lv_bipush (v := 127) hx hb dX0_replaceRiscPair_1 (by decide) ?_
  refine lv_iand hx hb dX0_replaceRiscPair_3 ?_
  refine lv_topi (fun x_1 e_1 => ?_)
  refine lv_istore (lv' := [(4, .int x_1), (0, .ref q), (1, .int w), (2, .int v), (3, .int r)]) hx hb dX0_replaceRiscPair_4 hl (by decide) rfl (fun ls hl => ?_)
  refine lv_iload_n hx hb dX0_replaceRiscPair_6 rfl (lv_at hl 3 rfl) ?_
  refine lv_bipush (v := 15) hx hb dX0_replaceRiscPair_7 (by decide) ?_
  refine lv_iushr (v := (kU v 15)) hx hb dX0_replaceRiscPair_9 rfl ?_
  refine lv_bipush (v := 31) hx hb dX0_replaceRiscPair_10 (by decide) ?_
  refine lv_iand hx hb dX0_replaceRiscPair_12 ?_
  refine lv_iload_n hx hb dX0_replaceRiscPair_13 rfl (lv_at hl 4 rfl) ?_
  refine lv_icmp_ne (tgt := 30) hx hb dX0_replaceRiscPair_14 (by decide) (fun c_2 => ?_) (fun c_2 => ?_)
  · subst e_1
    have e9 : cRp en pl rp w v r h g = (rp, g) := if_neg c_2
    exact hret _ _ _ _ dX0_replaceRiscPair_30 (by rw [e9]; exact hP) (by rw [e9]; exact hD) hS
  · refine lv_iload hx hb dX0_replaceRiscPair_17 (lv_at hl 0 rfl) ?_
    refine lv_bipush (v := 103) hx hb dX0_replaceRiscPair_19 (by decide) ?_
    refine lv_icmp_eq (tgt := 31) hx hb dX0_replaceRiscPair_21 (by decide) (fun c_3 => ?_) (fun c_3 => ?_)
    · refine lv_aload_n hx hb dX0_replaceRiscPair_31 rfl (lv_at hl 1 rfl) ?_
      refine lv_iload_n hx hb dX0_replaceRiscPair_32 rfl (lv_at hl 2 rfl) ?_
      refine lv_sipush (v := (-4096)) hx hb dX0_replaceRiscPair_33 (by decide) ?_
      refine lv_iand hx hb dX0_replaceRiscPair_36 ?_
      refine lv_iload_n hx hb dX0_replaceRiscPair_37 rfl (lv_at hl 3 rfl) ?_
      refine lv_bipush (v := 20) hx hb dX0_replaceRiscPair_38 (by decide) ?_
      refine lv_ishr hx hb dX0_replaceRiscPair_40 ?_
      refine lv_iadd hx hb dX0_replaceRiscPair_41 ?_
      refine lv_aload_n hx hb dX0_replaceRiscPair_42 rfl (lv_at hl 1 rfl) ?_
      refine va_get (D := D) (ci := 0) (v := .int pl) (C := RX0) (T := TX0) (N := 11) hx hb hts inX0 hown hK hP 0 rfl rfl 5 (by decide) k_42 (fun _ h9 => h9) rfl dX0_replaceRiscPair_43 ?_
      refine kCallI (As := [.int ((w &&& (-4096)) + (v >>> ((20 : Int32) &&& 31))), .int pl]) (wc := [(q, .inr (0, [.ref ro, .ref pa, .int kd, .int ds, .int en, .int pl, .int (nI h), .int gv, .int rp, .int mk, .int la]))]) (wr := [(ro, .inr (1, [.ref rb, .int sz])), (rb, .inl (cI, 64, .inl g))]) (ws' := [(q, .inr (0, [.ref ro, .ref pa, .int kd, .int ds, .int en, .int pl, .int (nI h), .int gv, .int rp, .int mk, .int la])), (ro, .inr (1, [.ref rb, .int sz])), (rb, .inl (cI, 64, .inl g))]) (ci := 0) (C := RX0) ⟨hx, hb, hml, hown, hts⟩ (c_X0_moved l D cI cF cJ q ro pa kd ds en pl (nI h) gv rp mk la ((w &&& (-4096)) + (v >>> ((20 : Int32) &&& 31))) pl ) (cwV 2 hts gX0_replaceRiscPair_X0_moved rfl rfl rfl (by decide +kernel) ⟨Nat.le_of_ble_eq_true rfl, Nat.le_of_ble_eq_true rfl⟩) hK hP hD hS hA [0] [1, 2] [2, 0, 1] rfl rfl rfl rfl (by decide) rfl rfl rfl rfl rfl hl.1 (Nat.le_of_ble_eq_true rfl) ⟨Nat.zero_le _, Nat.zero_le _⟩ dX0_replaceRiscPair_46 (fun H locs hP hD hS => ?_) rfl
      refine lv_topi (fun x_4 e_4 => ?_)
      refine lv_istore (lv' := [(5, .int x_4), (4, .int x_1), (0, .ref q), (1, .int w), (2, .int v), (3, .int r)]) hx hb dX0_replaceRiscPair_49 hl (by decide) rfl (fun ls hl => ?_)
      refine lv_iload hx hb dX0_replaceRiscPair_51 (lv_at hl 0 rfl) ?_
      refine lv_sipush (v := 2048) hx hb dX0_replaceRiscPair_53 (by decide) ?_
      refine lv_iadd hx hb dX0_replaceRiscPair_56 ?_
      refine lv_sipush (v := (-4096)) hx hb dX0_replaceRiscPair_57 (by decide) ?_
      refine lv_iand hx hb dX0_replaceRiscPair_60 ?_
      refine lv_topi (fun x_5 e_5 => ?_)
      refine lv_istore (lv' := [(6, .int x_5), (5, .int x_4), (4, .int x_1), (0, .ref q), (1, .int w), (2, .int v), (3, .int r)]) hx hb dX0_replaceRiscPair_61 hl (by decide) rfl (fun ls hl => ?_)
      refine lv_aload_n hx hb dX0_replaceRiscPair_63 rfl (lv_at hl 3 rfl) ?_
      refine va_get (D := D) (ci := 0) (v := .ref ro) (C := RX0) (T := TX0) (N := 11) hx hb hts inX0 hown hK hP 0 rfl rfl 0 (by decide) k_14 (fun _ h9 => h9) rfl dX0_replaceRiscPair_64 ?_
      refine lv_aload_n hx hb dX0_replaceRiscPair_67 rfl (lv_at hl 3 rfl) ?_
      refine va_get (D := D) (ci := 0) (v := .int (nI h)) (C := RX0) (T := TX0) (N := 11) hx hb hts inX0 hown hK hP 0 rfl rfl 6 (by decide) k_65 (fun _ h9 => h9) rfl dX0_replaceRiscPair_68 ?_
      refine lv_iload_n hx hb dX0_replaceRiscPair_71 rfl (lv_at hl 4 rfl) ?_
      refine lv_sipush (v := 4095) hx hb dX0_replaceRiscPair_72 (by decide) ?_
      refine lv_iand hx hb dX0_replaceRiscPair_75 ?_
      refine lv_iload hx hb dX0_replaceRiscPair_76 (lv_at hl 0 rfl) ?_
      refine lv_ior hx hb dX0_replaceRiscPair_78 ?_
      refine kCallV (As := [.int (nI h), .int ((w &&& 4095) ||| x_5)]) (wc := [(ro, .inr (1, [.ref rb, .int sz])), (rb, .inl (cI, 64, .inl g))]) (wr := [(q, .inr (0, [.ref ro, .ref pa, .int kd, .int ds, .int en, .int pl, .int (nI h), .int gv, .int rp, .int mk, .int la]))]) (ws' := [(q, .inr (0, [.ref ro, .ref pa, .int kd, .int ds, .int en, .int pl, .int (nI h), .int gv, .int rp, .int mk, .int la])), (ro, .inr (1, [.ref rb, .int sz])), (rb, .inl (cI, 64, .inl (cSetLo g h ((w &&& 4095) ||| x_5))))]) (ci := 1) (C := RX1) ⟨hx, hb, hml, hown, hts⟩ (c_X1_setLowestFirst l D cI cF cJ ro rb 64 h g sz ((w &&& 4095) ||| x_5) (by omega) (by omega)) (cwV 2 hts gX0_replaceRiscPair_X1_setLowestFirst rfl rfl rfl (by decide +kernel) ⟨Nat.le_of_ble_eq_true rfl, Nat.le_of_ble_eq_true rfl⟩) hK hP hD hS hA [1, 2] [0] [0, 1, 2] rfl rfl rfl rfl (by decide) rfl rfl rfl rfl rfl hl.1 (Nat.le_of_ble_eq_true rfl) ⟨Nat.zero_le _, Nat.zero_le _⟩ dX0_replaceRiscPair_79 (fun H locs hP hD hS => ?_) rfl
      refine lv_aload_n hx hb dX0_replaceRiscPair_82 rfl (lv_at hl 3 rfl) ?_
      refine va_get (D := D) (ci := 0) (v := .ref ro) (C := RX0) (T := TX0) (N := 11) hx hb hts inX0 hown hK hP 0 rfl rfl 0 (by decide) k_14 (fun _ h9 => h9) rfl dX0_replaceRiscPair_83 ?_
      refine lv_aload_n hx hb dX0_replaceRiscPair_86 rfl (lv_at hl 3 rfl) ?_
      refine va_get (D := D) (ci := 0) (v := .int (nI h)) (C := RX0) (T := TX0) (N := 11) hx hb hts inX0 hown hK hP 0 rfl rfl 6 (by decide) k_65 (fun _ h9 => h9) rfl dX0_replaceRiscPair_87 ?_
      refine lv_iconst (v := 4) hx hb dX0_replaceRiscPair_90 (by decide) ?_
      refine lv_iadd hx hb dX0_replaceRiscPair_91 ?_
      refine kTop (y := nI (h + 4)) (nI_add _ 4) ?_
      refine lv_iload_n hx hb dX0_replaceRiscPair_92 rfl (lv_at hl 5 rfl) ?_
      refine lv_ldc (v := 1048575) hx hb hown k_134 dX0_replaceRiscPair_93 ?_
      refine lv_iand hx hb dX0_replaceRiscPair_95 ?_
      refine lv_iload hx hb dX0_replaceRiscPair_96 (lv_at hl 1 rfl) ?_
      refine lv_bipush (v := 20) hx hb dX0_replaceRiscPair_98 (by decide) ?_
      refine lv_ishl hx hb dX0_replaceRiscPair_100 ?_
      refine lv_ior hx hb dX0_replaceRiscPair_101 ?_
      refine kCallV (As := [.int (nI (h + 4)), .int ((v &&& 1048575) ||| (x_4 <<< ((20 : Int32) &&& 31)))]) (wc := [(ro, .inr (1, [.ref rb, .int sz])), (rb, .inl (cI, 64, .inl (cSetLo g h ((w &&& 4095) ||| x_5))))]) (wr := [(q, .inr (0, [.ref ro, .ref pa, .int kd, .int ds, .int en, .int pl, .int (nI h), .int gv, .int rp, .int mk, .int la]))]) (ws' := [(q, .inr (0, [.ref ro, .ref pa, .int kd, .int ds, .int en, .int pl, .int (nI h), .int gv, .int rp, .int mk, .int la])), (ro, .inr (1, [.ref rb, .int sz])), (rb, .inl (cI, 64, .inl (cSetLo (cSetLo g h ((w &&& 4095) ||| x_5)) (h + 4) ((v &&& 1048575) ||| (x_4 <<< ((20 : Int32) &&& 31))))))]) (ci := 1) (C := RX1) ⟨hx, hb, hml, hown, hts⟩ (c_X1_setLowestFirst l D cI cF cJ ro rb 64 (h + 4) (cSetLo g h ((w &&& 4095) ||| x_5)) sz ((v &&& 1048575) ||| (x_4 <<< ((20 : Int32) &&& 31))) (by omega) (by omega)) (cwV 2 hts gX0_replaceRiscPair_X1_setLowestFirst rfl rfl rfl (by decide +kernel) ⟨Nat.le_of_ble_eq_true rfl, Nat.le_of_ble_eq_true rfl⟩) hK hP hD hS hA [1, 2] [0] [0, 1, 2] rfl rfl rfl rfl (by decide) rfl rfl rfl rfl rfl hl.1 (Nat.le_of_ble_eq_true rfl) ⟨Nat.zero_le _, Nat.zero_le _⟩ dX0_replaceRiscPair_102 (fun H locs hP hD hS => ?_) rfl
      refine lv_aload_n hx hb dX0_replaceRiscPair_105 rfl (lv_at hl 3 rfl) ?_
      refine lv_dup hx hb dX0_replaceRiscPair_106 rfl ?_
      refine va_get (D := D) (ci := 0) (v := .int rp) (C := RX0) (T := TX0) (N := 11) hx hb hts inX0 hown hK hP 0 rfl rfl 8 (by decide) k_48 (fun _ h9 => h9) rfl dX0_replaceRiscPair_107 ?_
      refine lv_iconst (v := 1) hx hb dX0_replaceRiscPair_110 (by decide) ?_
      refine lv_iadd hx hb dX0_replaceRiscPair_111 ?_
      refine kPut (D := D) (ci := 0) (v := .int (rp + 1)) (ty := .int) (C := RX0) (T := TX0) (N := 11) (ws' := [(q, .inr (0, [.ref ro, .ref pa, .int kd, .int ds, .int en, .int pl, .int (nI h), .int gv, .int (rp + 1), .int mk, .int la])), (ro, .inr (1, [.ref rb, .int sz])), (rb, .inl (cI, 64, .inl (cSetLo (cSetLo g h ((w &&& 4095) ||| x_5)) (h + 4) ((v &&& 1048575) ||| (x_4 <<< ((20 : Int32) &&& 31))))))]) hx hb hts inX0 tyX0 tyX0_ok nmX0 hown hK hP hD hS 0 rfl rfl 8 (by decide) k_48 rfl (by decide +kernel) (rfl) (by first | rfl | decide) (Nat.le_of_ble_eq_true rfl) rfl dX0_replaceRiscPair_112 (fun H locs hP hD hS => ?_)
      subst e_5
      subst e_4
      subst e_1
      have e9 : cRp en pl rp w v r h g = (rp + 1, cSetLo (cSetLo g h ((w &&& 4095) ||| (((cMd en ((w &&& (-4096)) + (v >>> ((20 : Int32) &&& 31))) pl) + 2048) &&& (-4096)))) (h + 4) ((v &&& 1048575) ||| ((cMd en ((w &&& (-4096)) + (v >>> ((20 : Int32) &&& 31))) pl) <<< ((20 : Int32) &&& 31)))) := (if_pos c_2).trans (if_pos c_3)
      exact hret _ _ _ _ dX0_replaceRiscPair_115 (by rw [e9]; exact hP) (by rw [e9]; exact hD) hS
    · refine lv_iload hx hb dX0_replaceRiscPair_24 (lv_at hl 0 rfl) ?_
      refine lv_iconst (v := 3) hx hb dX0_replaceRiscPair_26 (by decide) ?_
      refine lv_icmp_eq (tgt := 31) hx hb dX0_replaceRiscPair_27 (by decide) (fun c_6 => ?_) (fun c_6 => ?_)
      · refine lv_aload_n hx hb dX0_replaceRiscPair_31 rfl (lv_at hl 1 rfl) ?_
        refine lv_iload_n hx hb dX0_replaceRiscPair_32 rfl (lv_at hl 2 rfl) ?_
        refine lv_sipush (v := (-4096)) hx hb dX0_replaceRiscPair_33 (by decide) ?_
        refine lv_iand hx hb dX0_replaceRiscPair_36 ?_
        refine lv_iload_n hx hb dX0_replaceRiscPair_37 rfl (lv_at hl 3 rfl) ?_
        refine lv_bipush (v := 20) hx hb dX0_replaceRiscPair_38 (by decide) ?_
        refine lv_ishr hx hb dX0_replaceRiscPair_40 ?_
        refine lv_iadd hx hb dX0_replaceRiscPair_41 ?_
        refine lv_aload_n hx hb dX0_replaceRiscPair_42 rfl (lv_at hl 1 rfl) ?_
        refine va_get (D := D) (ci := 0) (v := .int pl) (C := RX0) (T := TX0) (N := 11) hx hb hts inX0 hown hK hP 0 rfl rfl 5 (by decide) k_42 (fun _ h9 => h9) rfl dX0_replaceRiscPair_43 ?_
        refine kCallI (As := [.int ((w &&& (-4096)) + (v >>> ((20 : Int32) &&& 31))), .int pl]) (wc := [(q, .inr (0, [.ref ro, .ref pa, .int kd, .int ds, .int en, .int pl, .int (nI h), .int gv, .int rp, .int mk, .int la]))]) (wr := [(ro, .inr (1, [.ref rb, .int sz])), (rb, .inl (cI, 64, .inl g))]) (ws' := [(q, .inr (0, [.ref ro, .ref pa, .int kd, .int ds, .int en, .int pl, .int (nI h), .int gv, .int rp, .int mk, .int la])), (ro, .inr (1, [.ref rb, .int sz])), (rb, .inl (cI, 64, .inl g))]) (ci := 0) (C := RX0) ⟨hx, hb, hml, hown, hts⟩ (c_X0_moved l D cI cF cJ q ro pa kd ds en pl (nI h) gv rp mk la ((w &&& (-4096)) + (v >>> ((20 : Int32) &&& 31))) pl ) (cwV 2 hts gX0_replaceRiscPair_X0_moved rfl rfl rfl (by decide +kernel) ⟨Nat.le_of_ble_eq_true rfl, Nat.le_of_ble_eq_true rfl⟩) hK hP hD hS hA [0] [1, 2] [2, 0, 1] rfl rfl rfl rfl (by decide) rfl rfl rfl rfl rfl hl.1 (Nat.le_of_ble_eq_true rfl) ⟨Nat.zero_le _, Nat.zero_le _⟩ dX0_replaceRiscPair_46 (fun H locs hP hD hS => ?_) rfl
        refine lv_topi (fun x_7 e_7 => ?_)
        refine lv_istore (lv' := [(5, .int x_7), (4, .int x_1), (0, .ref q), (1, .int w), (2, .int v), (3, .int r)]) hx hb dX0_replaceRiscPair_49 hl (by decide) rfl (fun ls hl => ?_)
        refine lv_iload hx hb dX0_replaceRiscPair_51 (lv_at hl 0 rfl) ?_
        refine lv_sipush (v := 2048) hx hb dX0_replaceRiscPair_53 (by decide) ?_
        refine lv_iadd hx hb dX0_replaceRiscPair_56 ?_
        refine lv_sipush (v := (-4096)) hx hb dX0_replaceRiscPair_57 (by decide) ?_
        refine lv_iand hx hb dX0_replaceRiscPair_60 ?_
        refine lv_topi (fun x_8 e_8 => ?_)
        refine lv_istore (lv' := [(6, .int x_8), (5, .int x_7), (4, .int x_1), (0, .ref q), (1, .int w), (2, .int v), (3, .int r)]) hx hb dX0_replaceRiscPair_61 hl (by decide) rfl (fun ls hl => ?_)
        refine lv_aload_n hx hb dX0_replaceRiscPair_63 rfl (lv_at hl 3 rfl) ?_
        refine va_get (D := D) (ci := 0) (v := .ref ro) (C := RX0) (T := TX0) (N := 11) hx hb hts inX0 hown hK hP 0 rfl rfl 0 (by decide) k_14 (fun _ h9 => h9) rfl dX0_replaceRiscPair_64 ?_
        refine lv_aload_n hx hb dX0_replaceRiscPair_67 rfl (lv_at hl 3 rfl) ?_
        refine va_get (D := D) (ci := 0) (v := .int (nI h)) (C := RX0) (T := TX0) (N := 11) hx hb hts inX0 hown hK hP 0 rfl rfl 6 (by decide) k_65 (fun _ h9 => h9) rfl dX0_replaceRiscPair_68 ?_
        refine lv_iload_n hx hb dX0_replaceRiscPair_71 rfl (lv_at hl 4 rfl) ?_
        refine lv_sipush (v := 4095) hx hb dX0_replaceRiscPair_72 (by decide) ?_
        refine lv_iand hx hb dX0_replaceRiscPair_75 ?_
        refine lv_iload hx hb dX0_replaceRiscPair_76 (lv_at hl 0 rfl) ?_
        refine lv_ior hx hb dX0_replaceRiscPair_78 ?_
        refine kCallV (As := [.int (nI h), .int ((w &&& 4095) ||| x_8)]) (wc := [(ro, .inr (1, [.ref rb, .int sz])), (rb, .inl (cI, 64, .inl g))]) (wr := [(q, .inr (0, [.ref ro, .ref pa, .int kd, .int ds, .int en, .int pl, .int (nI h), .int gv, .int rp, .int mk, .int la]))]) (ws' := [(q, .inr (0, [.ref ro, .ref pa, .int kd, .int ds, .int en, .int pl, .int (nI h), .int gv, .int rp, .int mk, .int la])), (ro, .inr (1, [.ref rb, .int sz])), (rb, .inl (cI, 64, .inl (cSetLo g h ((w &&& 4095) ||| x_8))))]) (ci := 1) (C := RX1) ⟨hx, hb, hml, hown, hts⟩ (c_X1_setLowestFirst l D cI cF cJ ro rb 64 h g sz ((w &&& 4095) ||| x_8) (by omega) (by omega)) (cwV 2 hts gX0_replaceRiscPair_X1_setLowestFirst rfl rfl rfl (by decide +kernel) ⟨Nat.le_of_ble_eq_true rfl, Nat.le_of_ble_eq_true rfl⟩) hK hP hD hS hA [1, 2] [0] [0, 1, 2] rfl rfl rfl rfl (by decide) rfl rfl rfl rfl rfl hl.1 (Nat.le_of_ble_eq_true rfl) ⟨Nat.zero_le _, Nat.zero_le _⟩ dX0_replaceRiscPair_79 (fun H locs hP hD hS => ?_) rfl
        refine lv_aload_n hx hb dX0_replaceRiscPair_82 rfl (lv_at hl 3 rfl) ?_
        refine va_get (D := D) (ci := 0) (v := .ref ro) (C := RX0) (T := TX0) (N := 11) hx hb hts inX0 hown hK hP 0 rfl rfl 0 (by decide) k_14 (fun _ h9 => h9) rfl dX0_replaceRiscPair_83 ?_
        refine lv_aload_n hx hb dX0_replaceRiscPair_86 rfl (lv_at hl 3 rfl) ?_
        refine va_get (D := D) (ci := 0) (v := .int (nI h)) (C := RX0) (T := TX0) (N := 11) hx hb hts inX0 hown hK hP 0 rfl rfl 6 (by decide) k_65 (fun _ h9 => h9) rfl dX0_replaceRiscPair_87 ?_
        refine lv_iconst (v := 4) hx hb dX0_replaceRiscPair_90 (by decide) ?_
        refine lv_iadd hx hb dX0_replaceRiscPair_91 ?_
        refine kTop (y := nI (h + 4)) (nI_add _ 4) ?_
        refine lv_iload_n hx hb dX0_replaceRiscPair_92 rfl (lv_at hl 5 rfl) ?_
        refine lv_ldc (v := 1048575) hx hb hown k_134 dX0_replaceRiscPair_93 ?_
        refine lv_iand hx hb dX0_replaceRiscPair_95 ?_
        refine lv_iload hx hb dX0_replaceRiscPair_96 (lv_at hl 1 rfl) ?_
        refine lv_bipush (v := 20) hx hb dX0_replaceRiscPair_98 (by decide) ?_
        refine lv_ishl hx hb dX0_replaceRiscPair_100 ?_
        refine lv_ior hx hb dX0_replaceRiscPair_101 ?_
        refine kCallV (As := [.int (nI (h + 4)), .int ((v &&& 1048575) ||| (x_7 <<< ((20 : Int32) &&& 31)))]) (wc := [(ro, .inr (1, [.ref rb, .int sz])), (rb, .inl (cI, 64, .inl (cSetLo g h ((w &&& 4095) ||| x_8))))]) (wr := [(q, .inr (0, [.ref ro, .ref pa, .int kd, .int ds, .int en, .int pl, .int (nI h), .int gv, .int rp, .int mk, .int la]))]) (ws' := [(q, .inr (0, [.ref ro, .ref pa, .int kd, .int ds, .int en, .int pl, .int (nI h), .int gv, .int rp, .int mk, .int la])), (ro, .inr (1, [.ref rb, .int sz])), (rb, .inl (cI, 64, .inl (cSetLo (cSetLo g h ((w &&& 4095) ||| x_8)) (h + 4) ((v &&& 1048575) ||| (x_7 <<< ((20 : Int32) &&& 31))))))]) (ci := 1) (C := RX1) ⟨hx, hb, hml, hown, hts⟩ (c_X1_setLowestFirst l D cI cF cJ ro rb 64 (h + 4) (cSetLo g h ((w &&& 4095) ||| x_8)) sz ((v &&& 1048575) ||| (x_7 <<< ((20 : Int32) &&& 31))) (by omega) (by omega)) (cwV 2 hts gX0_replaceRiscPair_X1_setLowestFirst rfl rfl rfl (by decide +kernel) ⟨Nat.le_of_ble_eq_true rfl, Nat.le_of_ble_eq_true rfl⟩) hK hP hD hS hA [1, 2] [0] [0, 1, 2] rfl rfl rfl rfl (by decide) rfl rfl rfl rfl rfl hl.1 (Nat.le_of_ble_eq_true rfl) ⟨Nat.zero_le _, Nat.zero_le _⟩ dX0_replaceRiscPair_102 (fun H locs hP hD hS => ?_) rfl
        refine lv_aload_n hx hb dX0_replaceRiscPair_105 rfl (lv_at hl 3 rfl) ?_
        refine lv_dup hx hb dX0_replaceRiscPair_106 rfl ?_
        refine va_get (D := D) (ci := 0) (v := .int rp) (C := RX0) (T := TX0) (N := 11) hx hb hts inX0 hown hK hP 0 rfl rfl 8 (by decide) k_48 (fun _ h9 => h9) rfl dX0_replaceRiscPair_107 ?_
        refine lv_iconst (v := 1) hx hb dX0_replaceRiscPair_110 (by decide) ?_
        refine lv_iadd hx hb dX0_replaceRiscPair_111 ?_
        refine kPut (D := D) (ci := 0) (v := .int (rp + 1)) (ty := .int) (C := RX0) (T := TX0) (N := 11) (ws' := [(q, .inr (0, [.ref ro, .ref pa, .int kd, .int ds, .int en, .int pl, .int (nI h), .int gv, .int (rp + 1), .int mk, .int la])), (ro, .inr (1, [.ref rb, .int sz])), (rb, .inl (cI, 64, .inl (cSetLo (cSetLo g h ((w &&& 4095) ||| x_8)) (h + 4) ((v &&& 1048575) ||| (x_7 <<< ((20 : Int32) &&& 31))))))]) hx hb hts inX0 tyX0 tyX0_ok nmX0 hown hK hP hD hS 0 rfl rfl 8 (by decide) k_48 rfl (by decide +kernel) (rfl) (by first | rfl | decide) (Nat.le_of_ble_eq_true rfl) rfl dX0_replaceRiscPair_112 (fun H locs hP hD hS => ?_)
        subst e_8
        subst e_7
        subst e_1
        have e9 : cRp en pl rp w v r h g = (rp + 1, cSetLo (cSetLo g h ((w &&& 4095) ||| (((cMd en ((w &&& (-4096)) + (v >>> ((20 : Int32) &&& 31))) pl) + 2048) &&& (-4096)))) (h + 4) ((v &&& 1048575) ||| ((cMd en ((w &&& (-4096)) + (v >>> ((20 : Int32) &&& 31))) pl) <<< ((20 : Int32) &&& 31)))) := (if_pos c_2).trans ((if_neg c_3).trans (if_pos c_6))
        exact hret _ _ _ _ dX0_replaceRiscPair_115 (by rw [e9]; exact hP) (by rw [e9]; exact hD) hS
      · subst e_1
        have e9 : cRp en pl rp w v r h g = (rp, g) := (if_pos c_2).trans ((if_neg c_3).trans (if_neg c_6))
        exact hret _ _ _ _ dX0_replaceRiscPair_30 (by rw [e9]; exact hP) (by rw [e9]; exact hD) hS

def cRisc (en : Int32) (pl : Int32) (rp : Int32) (h : Nat) (g : Nat → Int32) : Int32 × Int32 × (Nat → Int32) := (if ((cLo g h) &&& 127) = 111 then (if ((kU (cLo g h) 7) &&& 31) = 1 then (4, (cRj en pl rp (cLo g h) h g).1, (cRj en pl rp (cLo g h) h g).2) else (if ((kU (cLo g h) 7) &&& 31) = 5 then (4, (cRj en pl rp (cLo g h) h g).1, (cRj en pl rp (cLo g h) h g).2) else (if ((cLo g h) &&& 127) = 23 then (if ((kU (cLo g h) 7) &&& 31) = 0 then (2, rp, g) else (8, (cRp en pl rp (cLo g h) (cLo g (h + 4)) ((kU (cLo g h) 7) &&& 31) h g).1, (cRp en pl rp (cLo g h) (cLo g (h + 4)) ((kU (cLo g h) 7) &&& 31) h g).2)) else (2, rp, g)))) else (if ((cLo g h) &&& 127) = 23 then (if ((kU (cLo g h) 7) &&& 31) = 0 then (2, rp, g) else (8, (cRp en pl rp (cLo g h) (cLo g (h + 4)) ((kU (cLo g h) 7) &&& 31) h g).1, (cRp en pl rp (cLo g h) (cLo g (h + 4)) ((kU (cLo g h) 7) &&& 31) h g).2)) else (2, rp, g)))

set_option maxHeartbeats 4000000 in
set_option maxRecDepth 100000 in
/-- Filter.stepRisc() -/
theorem c_X0_stepRisc (l : Launch) (D : va_G) (cI cF cJ : ClassId) (q ro pa rb h : Nat) (kd ds en pl gv rp mk la sz : Int32) (g : Nat → Int32) (hk : h + 7 < 64) : kI l yX0_stepRisc wsX0_stepRisc ({ frames := 2, cells := 0, slots := 0, locals := 48 }) D (kTy cI cF cJ) [.ref q] [(q, .inr (0, [.ref ro, .ref pa, .int kd, .int ds, .int en, .int pl, .int (nI h), .int gv, .int rp, .int mk, .int la])), (ro, .inr (1, [.ref rb, .int sz])), (rb, .inl (cI, 64, .inl g))] [(q, .inr (0, [.ref ro, .ref pa, .int kd, .int ds, .int en, .int pl, .int (nI h), .int gv, .int ((cRisc en pl rp h g).2.1), .int mk, .int la])), (ro, .inr (1, [.ref rb, .int sz])), (rb, .inl (cI, 64, .inl ((cRisc en pl rp h g).2.2)))] ((cRisc en pl rp h g).1) := by
  refine kI_of (cc := cX0_stepRisc) (nL := 4) (ty := .int) (own := RX0) (lv := [(0, .ref q)]) (by decide) rfl rfl (Nat.le_of_ble_eq_true rfl) rfl (rfl) ?_
  intro p e s m args below meth c A ls Q C hA hK hP hD hS hl hret
  obtain ⟨hx, hb, hr, hml, hown, hts, hlocks⟩ := C
  have k_14 := hts (.fieldLink RX0 14 "BranchFilters$Filter" "held" "LBranchFilters$Row;") (by decide +kernel)
  have k_65 := hts (.fieldLink RX0 65 "BranchFilters$Filter" "here" "I") (by decide +kernel)
  have inX0 : ∀ w ∈ wsX00, w ∈ wsX0_stepRisc := by decide +kernel
  refine lv_aload_n hx hb dX0_stepRisc_0 rfl (lv_at hl 0 rfl) ?_
  refine va_get (D := D) (ci := 0) (v := .ref ro) (C := RX0) (T := TX0) (N := 11) hx hb hts inX0 hown hK hP 0 rfl rfl 0 (by decide) k_14 (fun _ h9 => h9) rfl dX0_stepRisc_1 ?_
  refine lv_aload_n hx hb dX0_stepRisc_4 rfl (lv_at hl 0 rfl) ?_
  refine va_get (D := D) (ci := 0) (v := .int (nI h)) (C := RX0) (T := TX0) (N := 11) hx hb hts inX0 hown hK hP 0 rfl rfl 6 (by decide) k_65 (fun _ h9 => h9) rfl dX0_stepRisc_5 ?_
  refine kCallI (As := [.int (nI h)]) (wc := [(ro, .inr (1, [.ref rb, .int sz])), (rb, .inl (cI, 64, .inl g))]) (wr := [(q, .inr (0, [.ref ro, .ref pa, .int kd, .int ds, .int en, .int pl, .int (nI h), .int gv, .int rp, .int mk, .int la]))]) (ws' := [(q, .inr (0, [.ref ro, .ref pa, .int kd, .int ds, .int en, .int pl, .int (nI h), .int gv, .int rp, .int mk, .int la])), (ro, .inr (1, [.ref rb, .int sz])), (rb, .inl (cI, 64, .inl g))]) (ci := 1) (C := RX1) ⟨hx, hb, hml, hown, hts⟩ (c_X1_lowestFirst l D cI cF cJ ro rb 64 h g sz (by omega) (by omega)) (cwV 1 hts gX0_stepRisc_X1_lowestFirst rfl rfl rfl (by decide +kernel) ⟨Nat.le_of_ble_eq_true rfl, Nat.le_of_ble_eq_true rfl⟩) hK hP hD hS hA [1, 2] [0] [0, 1, 2] rfl rfl rfl rfl (by decide) rfl rfl rfl rfl rfl hl.1 (Nat.le_of_ble_eq_true rfl) ⟨Nat.zero_le _, Nat.zero_le _⟩ dX0_stepRisc_8 (fun H locs hP hD hS => ?_) rfl
  refine lv_topi (fun x_1 e_1 => ?_)
  refine lv_istore_n (lv' := [(1, .int x_1), (0, .ref q)]) hx hb dX0_stepRisc_11 rfl hl (by decide) rfl (fun ls hl => ?_)
  refine lv_iload_n hx hb dX0_stepRisc_12 rfl (lv_at hl 0 rfl) ?_
  refine lv_bipush (v := 127) hx hb dX0_stepRisc_13 (by decide) ?_
  refine lv_iand hx hb dX0_stepRisc_15 ?_
  refine lv_topi (fun x_2 e_2 => ?_)
  refine lv_istore_n (lv' := [(2, .int x_2), (1, .int x_1), (0, .ref q)]) hx hb dX0_stepRisc_16 rfl hl (by decide) rfl (fun ls hl => ?_)
  refine lv_iload_n hx hb dX0_stepRisc_17 rfl (lv_at hl 1 rfl) ?_
  refine lv_bipush (v := 7) hx hb dX0_stepRisc_18 (by decide) ?_
  refine lv_iushr (v := (kU x_1 7)) hx hb dX0_stepRisc_20 rfl ?_
  refine lv_bipush (v := 31) hx hb dX0_stepRisc_21 (by decide) ?_
  refine lv_iand hx hb dX0_stepRisc_23 ?_
  refine lv_topi (fun x_3 e_3 => ?_)
  refine lv_istore_n (lv' := [(3, .int x_3), (2, .int x_2), (1, .int x_1), (0, .ref q)]) hx hb dX0_stepRisc_24 rfl hl (by decide) rfl (fun ls hl => ?_)
  refine lv_iload_n hx hb dX0_stepRisc_25 rfl (lv_at hl 1 rfl) ?_
  refine lv_bipush (v := 111) hx hb dX0_stepRisc_26 (by decide) ?_
  refine lv_icmp_ne (tgt := 48) hx hb dX0_stepRisc_28 (by decide) (fun c_4 => ?_) (fun c_4 => ?_)
  · refine lv_iload_n hx hb dX0_stepRisc_48 rfl (lv_at hl 1 rfl) ?_
    refine lv_bipush (v := 23) hx hb dX0_stepRisc_49 (by decide) ?_
    refine lv_icmp_ne (tgt := 80) hx hb dX0_stepRisc_51 (by decide) (fun c_5 => ?_) (fun c_5 => ?_)
    · refine lv_iconst (v := 2) hx hb dX0_stepRisc_80 (by decide) ?_
      subst e_3
      subst e_2
      subst e_1
      have e9 : cRisc en pl rp h g = (2, rp, g) := (if_neg c_4).trans (if_neg c_5)
      exact hret _ _ _ _ _ dX0_stepRisc_81 (by rw [e9]) (by rw [e9]; exact hP) (by rw [e9]; exact hD) hS
    · refine lv_iload_n hx hb dX0_stepRisc_54 rfl (lv_at hl 0 rfl) ?_
      refine lv_if_eq (tgt := 80) hx hb dX0_stepRisc_55 (by decide) (fun c_6 => ?_) (fun c_6 => ?_)
      · refine lv_iconst (v := 2) hx hb dX0_stepRisc_80 (by decide) ?_
        subst e_3
        subst e_2
        subst e_1
        have e9 : cRisc en pl rp h g = (2, rp, g) := (if_neg c_4).trans ((if_pos c_5).trans (if_pos c_6))
        exact hret _ _ _ _ _ dX0_stepRisc_81 (by rw [e9]) (by rw [e9]; exact hP) (by rw [e9]; exact hD) hS
      · refine lv_aload_n hx hb dX0_stepRisc_58 rfl (lv_at hl 3 rfl) ?_
        refine lv_iload_n hx hb dX0_stepRisc_59 rfl (lv_at hl 2 rfl) ?_
        refine lv_aload_n hx hb dX0_stepRisc_60 rfl (lv_at hl 3 rfl) ?_
        refine va_get (D := D) (ci := 0) (v := .ref ro) (C := RX0) (T := TX0) (N := 11) hx hb hts inX0 hown hK hP 0 rfl rfl 0 (by decide) k_14 (fun _ h9 => h9) rfl dX0_stepRisc_61 ?_
        refine lv_aload_n hx hb dX0_stepRisc_64 rfl (lv_at hl 3 rfl) ?_
        refine va_get (D := D) (ci := 0) (v := .int (nI h)) (C := RX0) (T := TX0) (N := 11) hx hb hts inX0 hown hK hP 0 rfl rfl 6 (by decide) k_65 (fun _ h9 => h9) rfl dX0_stepRisc_65 ?_
        refine lv_iconst (v := 4) hx hb dX0_stepRisc_68 (by decide) ?_
        refine lv_iadd hx hb dX0_stepRisc_69 ?_
        refine kTop (y := nI (h + 4)) (nI_add _ 4) ?_
        refine kCallI (As := [.int (nI (h + 4))]) (wc := [(ro, .inr (1, [.ref rb, .int sz])), (rb, .inl (cI, 64, .inl g))]) (wr := [(q, .inr (0, [.ref ro, .ref pa, .int kd, .int ds, .int en, .int pl, .int (nI h), .int gv, .int rp, .int mk, .int la]))]) (ws' := [(q, .inr (0, [.ref ro, .ref pa, .int kd, .int ds, .int en, .int pl, .int (nI h), .int gv, .int rp, .int mk, .int la])), (ro, .inr (1, [.ref rb, .int sz])), (rb, .inl (cI, 64, .inl g))]) (ci := 1) (C := RX1) ⟨hx, hb, hml, hown, hts⟩ (c_X1_lowestFirst l D cI cF cJ ro rb 64 (h + 4) g sz (by omega) (by omega)) (cwV 1 hts gX0_stepRisc_X1_lowestFirst rfl rfl rfl (by decide +kernel) ⟨Nat.le_of_ble_eq_true rfl, Nat.le_of_ble_eq_true rfl⟩) hK hP hD hS hA [1, 2] [0] [0, 1, 2] rfl rfl rfl rfl (by decide) rfl rfl rfl rfl rfl hl.1 (Nat.le_of_ble_eq_true rfl) ⟨Nat.zero_le _, Nat.zero_le _⟩ dX0_stepRisc_70 (fun H locs hP hD hS => ?_) rfl
        refine lv_iload_n hx hb dX0_stepRisc_73 rfl (lv_at hl 0 rfl) ?_
        refine kCallV (As := [.int x_1, .int (cLo g (h + 4)), .int x_3]) (wc := [(q, .inr (0, [.ref ro, .ref pa, .int kd, .int ds, .int en, .int pl, .int (nI h), .int gv, .int rp, .int mk, .int la])), (ro, .inr (1, [.ref rb, .int sz])), (rb, .inl (cI, 64, .inl g))]) (wr := []) (ws' := [(q, .inr (0, [.ref ro, .ref pa, .int kd, .int ds, .int en, .int pl, .int (nI h), .int gv, .int ((cRp en pl rp x_1 (cLo g (h + 4)) x_3 h g).1), .int mk, .int la])), (ro, .inr (1, [.ref rb, .int sz])), (rb, .inl (cI, 64, .inl ((cRp en pl rp x_1 (cLo g (h + 4)) x_3 h g).2)))]) (ci := 0) (C := RX0) ⟨hx, hb, hml, hown, hts⟩ (c_X0_replaceRiscPair l D cI cF cJ q ro pa rb h kd ds en pl gv rp mk la sz g x_1 (cLo g (h + 4)) x_3 (by omega)) (cwV 3 hts gX0_stepRisc_X0_replaceRiscPair rfl rfl rfl (by decide +kernel) ⟨Nat.le_of_ble_eq_true rfl, Nat.le_of_ble_eq_true rfl⟩) hK hP hD hS hA [0, 1, 2] [] [0, 1, 2] rfl rfl rfl rfl (by decide) rfl rfl rfl rfl rfl hl.1 (Nat.le_of_ble_eq_true rfl) ⟨Nat.zero_le _, Nat.zero_le _⟩ dX0_stepRisc_74 (fun H locs hP hD hS => ?_) rfl
        refine lv_bipush (v := 8) hx hb dX0_stepRisc_77 (by decide) ?_
        subst e_3
        subst e_2
        subst e_1
        have e9 : cRisc en pl rp h g = (8, (cRp en pl rp (cLo g h) (cLo g (h + 4)) ((kU (cLo g h) 7) &&& 31) h g).1, (cRp en pl rp (cLo g h) (cLo g (h + 4)) ((kU (cLo g h) 7) &&& 31) h g).2) := (if_neg c_4).trans ((if_pos c_5).trans (if_neg c_6))
        exact hret _ _ _ _ _ dX0_stepRisc_79 (by rw [e9]) (by rw [e9]; exact hP) (by rw [e9]; exact hD) hS
  · refine lv_iload_n hx hb dX0_stepRisc_31 rfl (lv_at hl 0 rfl) ?_
    refine lv_iconst (v := 1) hx hb dX0_stepRisc_32 (by decide) ?_
    refine lv_icmp_eq (tgt := 41) hx hb dX0_stepRisc_33 (by decide) (fun c_7 => ?_) (fun c_7 => ?_)
    · refine lv_aload_n hx hb dX0_stepRisc_41 rfl (lv_at hl 3 rfl) ?_
      refine lv_iload_n hx hb dX0_stepRisc_42 rfl (lv_at hl 2 rfl) ?_
      refine kCallV (As := [.int x_1]) (wc := [(q, .inr (0, [.ref ro, .ref pa, .int kd, .int ds, .int en, .int pl, .int (nI h), .int gv, .int rp, .int mk, .int la])), (ro, .inr (1, [.ref rb, .int sz])), (rb, .inl (cI, 64, .inl g))]) (wr := []) (ws' := [(q, .inr (0, [.ref ro, .ref pa, .int kd, .int ds, .int en, .int pl, .int (nI h), .int gv, .int ((cRj en pl rp x_1 h g).1), .int mk, .int la])), (ro, .inr (1, [.ref rb, .int sz])), (rb, .inl (cI, 64, .inl ((cRj en pl rp x_1 h g).2)))]) (ci := 0) (C := RX0) ⟨hx, hb, hml, hown, hts⟩ (c_X0_replaceRiscJump l D cI cF cJ q ro pa rb h kd ds en pl gv rp mk la sz g x_1 (by omega)) (cwV 1 hts gX0_stepRisc_X0_replaceRiscJump rfl rfl rfl (by decide +kernel) ⟨Nat.le_of_ble_eq_true rfl, Nat.le_of_ble_eq_true rfl⟩) hK hP hD hS hA [0, 1, 2] [] [0, 1, 2] rfl rfl rfl rfl (by decide) rfl rfl rfl rfl rfl hl.1 (Nat.le_of_ble_eq_true rfl) ⟨Nat.zero_le _, Nat.zero_le _⟩ dX0_stepRisc_43 (fun H locs hP hD hS => ?_) rfl
      refine lv_iconst (v := 4) hx hb dX0_stepRisc_46 (by decide) ?_
      subst e_3
      subst e_2
      subst e_1
      have e9 : cRisc en pl rp h g = (4, (cRj en pl rp (cLo g h) h g).1, (cRj en pl rp (cLo g h) h g).2) := (if_pos c_4).trans (if_pos c_7)
      exact hret _ _ _ _ _ dX0_stepRisc_47 (by rw [e9]) (by rw [e9]; exact hP) (by rw [e9]; exact hD) hS
    · refine lv_iload_n hx hb dX0_stepRisc_36 rfl (lv_at hl 0 rfl) ?_
      refine lv_iconst (v := 5) hx hb dX0_stepRisc_37 (by decide) ?_
      refine lv_icmp_ne (tgt := 48) hx hb dX0_stepRisc_38 (by decide) (fun c_8 => ?_) (fun c_8 => ?_)
      · refine lv_iload_n hx hb dX0_stepRisc_48 rfl (lv_at hl 1 rfl) ?_
        refine lv_bipush (v := 23) hx hb dX0_stepRisc_49 (by decide) ?_
        refine lv_icmp_ne (tgt := 80) hx hb dX0_stepRisc_51 (by decide) (fun c_9 => ?_) (fun c_9 => ?_)
        · refine lv_iconst (v := 2) hx hb dX0_stepRisc_80 (by decide) ?_
          subst e_3
          subst e_2
          subst e_1
          have e9 : cRisc en pl rp h g = (2, rp, g) := (if_pos c_4).trans ((if_neg c_7).trans ((if_neg c_8).trans (if_neg c_9)))
          exact hret _ _ _ _ _ dX0_stepRisc_81 (by rw [e9]) (by rw [e9]; exact hP) (by rw [e9]; exact hD) hS
        · refine lv_iload_n hx hb dX0_stepRisc_54 rfl (lv_at hl 0 rfl) ?_
          refine lv_if_eq (tgt := 80) hx hb dX0_stepRisc_55 (by decide) (fun c_10 => ?_) (fun c_10 => ?_)
          · refine lv_iconst (v := 2) hx hb dX0_stepRisc_80 (by decide) ?_
            subst e_3
            subst e_2
            subst e_1
            have e9 : cRisc en pl rp h g = (2, rp, g) := (if_pos c_4).trans ((if_neg c_7).trans ((if_neg c_8).trans ((if_pos c_9).trans (if_pos c_10))))
            exact hret _ _ _ _ _ dX0_stepRisc_81 (by rw [e9]) (by rw [e9]; exact hP) (by rw [e9]; exact hD) hS
          · refine lv_aload_n hx hb dX0_stepRisc_58 rfl (lv_at hl 3 rfl) ?_
            refine lv_iload_n hx hb dX0_stepRisc_59 rfl (lv_at hl 2 rfl) ?_
            refine lv_aload_n hx hb dX0_stepRisc_60 rfl (lv_at hl 3 rfl) ?_
            refine va_get (D := D) (ci := 0) (v := .ref ro) (C := RX0) (T := TX0) (N := 11) hx hb hts inX0 hown hK hP 0 rfl rfl 0 (by decide) k_14 (fun _ h9 => h9) rfl dX0_stepRisc_61 ?_
            refine lv_aload_n hx hb dX0_stepRisc_64 rfl (lv_at hl 3 rfl) ?_
            refine va_get (D := D) (ci := 0) (v := .int (nI h)) (C := RX0) (T := TX0) (N := 11) hx hb hts inX0 hown hK hP 0 rfl rfl 6 (by decide) k_65 (fun _ h9 => h9) rfl dX0_stepRisc_65 ?_
            refine lv_iconst (v := 4) hx hb dX0_stepRisc_68 (by decide) ?_
            refine lv_iadd hx hb dX0_stepRisc_69 ?_
            refine kTop (y := nI (h + 4)) (nI_add _ 4) ?_
            refine kCallI (As := [.int (nI (h + 4))]) (wc := [(ro, .inr (1, [.ref rb, .int sz])), (rb, .inl (cI, 64, .inl g))]) (wr := [(q, .inr (0, [.ref ro, .ref pa, .int kd, .int ds, .int en, .int pl, .int (nI h), .int gv, .int rp, .int mk, .int la]))]) (ws' := [(q, .inr (0, [.ref ro, .ref pa, .int kd, .int ds, .int en, .int pl, .int (nI h), .int gv, .int rp, .int mk, .int la])), (ro, .inr (1, [.ref rb, .int sz])), (rb, .inl (cI, 64, .inl g))]) (ci := 1) (C := RX1) ⟨hx, hb, hml, hown, hts⟩ (c_X1_lowestFirst l D cI cF cJ ro rb 64 (h + 4) g sz (by omega) (by omega)) (cwV 1 hts gX0_stepRisc_X1_lowestFirst rfl rfl rfl (by decide +kernel) ⟨Nat.le_of_ble_eq_true rfl, Nat.le_of_ble_eq_true rfl⟩) hK hP hD hS hA [1, 2] [0] [0, 1, 2] rfl rfl rfl rfl (by decide) rfl rfl rfl rfl rfl hl.1 (Nat.le_of_ble_eq_true rfl) ⟨Nat.zero_le _, Nat.zero_le _⟩ dX0_stepRisc_70 (fun H locs hP hD hS => ?_) rfl
            refine lv_iload_n hx hb dX0_stepRisc_73 rfl (lv_at hl 0 rfl) ?_
            refine kCallV (As := [.int x_1, .int (cLo g (h + 4)), .int x_3]) (wc := [(q, .inr (0, [.ref ro, .ref pa, .int kd, .int ds, .int en, .int pl, .int (nI h), .int gv, .int rp, .int mk, .int la])), (ro, .inr (1, [.ref rb, .int sz])), (rb, .inl (cI, 64, .inl g))]) (wr := []) (ws' := [(q, .inr (0, [.ref ro, .ref pa, .int kd, .int ds, .int en, .int pl, .int (nI h), .int gv, .int ((cRp en pl rp x_1 (cLo g (h + 4)) x_3 h g).1), .int mk, .int la])), (ro, .inr (1, [.ref rb, .int sz])), (rb, .inl (cI, 64, .inl ((cRp en pl rp x_1 (cLo g (h + 4)) x_3 h g).2)))]) (ci := 0) (C := RX0) ⟨hx, hb, hml, hown, hts⟩ (c_X0_replaceRiscPair l D cI cF cJ q ro pa rb h kd ds en pl gv rp mk la sz g x_1 (cLo g (h + 4)) x_3 (by omega)) (cwV 3 hts gX0_stepRisc_X0_replaceRiscPair rfl rfl rfl (by decide +kernel) ⟨Nat.le_of_ble_eq_true rfl, Nat.le_of_ble_eq_true rfl⟩) hK hP hD hS hA [0, 1, 2] [] [0, 1, 2] rfl rfl rfl rfl (by decide) rfl rfl rfl rfl rfl hl.1 (Nat.le_of_ble_eq_true rfl) ⟨Nat.zero_le _, Nat.zero_le _⟩ dX0_stepRisc_74 (fun H locs hP hD hS => ?_) rfl
            refine lv_bipush (v := 8) hx hb dX0_stepRisc_77 (by decide) ?_
            subst e_3
            subst e_2
            subst e_1
            have e9 : cRisc en pl rp h g = (8, (cRp en pl rp (cLo g h) (cLo g (h + 4)) ((kU (cLo g h) 7) &&& 31) h g).1, (cRp en pl rp (cLo g h) (cLo g (h + 4)) ((kU (cLo g h) 7) &&& 31) h g).2) := (if_pos c_4).trans ((if_neg c_7).trans ((if_neg c_8).trans ((if_pos c_9).trans (if_neg c_10))))
            exact hret _ _ _ _ _ dX0_stepRisc_79 (by rw [e9]) (by rw [e9]; exact hP) (by rw [e9]; exact hD) hS
      · refine lv_aload_n hx hb dX0_stepRisc_41 rfl (lv_at hl 3 rfl) ?_
        refine lv_iload_n hx hb dX0_stepRisc_42 rfl (lv_at hl 2 rfl) ?_
        refine kCallV (As := [.int x_1]) (wc := [(q, .inr (0, [.ref ro, .ref pa, .int kd, .int ds, .int en, .int pl, .int (nI h), .int gv, .int rp, .int mk, .int la])), (ro, .inr (1, [.ref rb, .int sz])), (rb, .inl (cI, 64, .inl g))]) (wr := []) (ws' := [(q, .inr (0, [.ref ro, .ref pa, .int kd, .int ds, .int en, .int pl, .int (nI h), .int gv, .int ((cRj en pl rp x_1 h g).1), .int mk, .int la])), (ro, .inr (1, [.ref rb, .int sz])), (rb, .inl (cI, 64, .inl ((cRj en pl rp x_1 h g).2)))]) (ci := 0) (C := RX0) ⟨hx, hb, hml, hown, hts⟩ (c_X0_replaceRiscJump l D cI cF cJ q ro pa rb h kd ds en pl gv rp mk la sz g x_1 (by omega)) (cwV 1 hts gX0_stepRisc_X0_replaceRiscJump rfl rfl rfl (by decide +kernel) ⟨Nat.le_of_ble_eq_true rfl, Nat.le_of_ble_eq_true rfl⟩) hK hP hD hS hA [0, 1, 2] [] [0, 1, 2] rfl rfl rfl rfl (by decide) rfl rfl rfl rfl rfl hl.1 (Nat.le_of_ble_eq_true rfl) ⟨Nat.zero_le _, Nat.zero_le _⟩ dX0_stepRisc_43 (fun H locs hP hD hS => ?_) rfl
        refine lv_iconst (v := 4) hx hb dX0_stepRisc_46 (by decide) ?_
        subst e_3
        subst e_2
        subst e_1
        have e9 : cRisc en pl rp h g = (4, (cRj en pl rp (cLo g h) h g).1, (cRj en pl rp (cLo g h) h g).2) := (if_pos c_4).trans ((if_neg c_7).trans (if_pos c_8))
        exact hret _ _ _ _ _ dX0_stepRisc_47 (by rw [e9]) (by rw [e9]; exact hP) (by rw [e9]; exact hD) hS
