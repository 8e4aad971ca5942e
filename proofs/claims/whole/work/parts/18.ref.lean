/-! BranchFiltersModel: leaves -/

set_option maxHeartbeats 4000000 in
set_option maxRecDepth 100000 in
theorem c_X3_thrown (l : Launch) (D : va_G) (cI cF cJ : ClassId) (mq ak ad ah am ap ag au ax al ai an ao : Nat) (fa st en cm fi im nm om : Int32)  : kI l yX3_thrown wsX3_thrown ({ frames := 0, cells := 0, slots := 0, locals := 0 }) D (kTy cI cF cJ) [.ref mq] [(mq, .inr (3, [.int fa, .ref ak, .ref ad, .int st, .int en, .int cm, .int fi, .ref ah, .ref am, .ref ap, .ref ag, .ref au, .ref ax, .ref al, .ref ai, .int im, .ref an, .int nm, .ref ao, .int om]))] [(mq, .inr (3, [.int fa, .ref ak, .ref ad, .int st, .int en, .int cm, .int fi, .ref ah, .ref am, .ref ap, .ref ag, .ref au, .ref ax, .ref al, .ref ai, .int im, .ref an, .int nm, .ref ao, .int om]))] fa := by
  refine kI_of (cc := cX3_thrown) (nL := 1) (ty := .int) (own := RX3) (lv := [(0, .ref mq)]) (by decide) rfl rfl (Nat.le_of_ble_eq_true rfl) rfl (rfl) ?_
  intro p e s m args below meth c A ls Q C hA hK hP hD hS hl hret
  obtain ⟨hx, hb, hr, hml, hown, hts, hlocks⟩ := C
  have k_53 := hts (.fieldLink RX3 53 "BranchFiltersModel" "fault" "I") (by decide +kernel)
  have inX3 : ∀ w ∈ wsX30, w ∈ wsX3_thrown := by decide +kernel
  refine lv_aload_n hx hb dX3_thrown_0 rfl (lv_at hl 0 rfl) ?_
  refine va_get (D := D) (ci := 3) (v := .int fa) (C := RX3) (T := TX3) (N := 20) hx hb hts inX3 hown hK hP 0 rfl rfl 0 (by decide) k_53 (fun _ h9 => h9) rfl dX3_thrown_1 ?_
  exact hret _ _ _ _ _ dX3_thrown_4 (rfl) (hP) (hD) hS

def rRef (x : Int32) : Int32 := (if x ≤ 0 then 0 else 1)

set_option maxHeartbeats 4000000 in
set_option maxRecDepth 100000 in
theorem c_X3_refused (l : Launch) (D : va_G) (cI cF cJ : ClassId) (mq ak ad ah am ap ag au ax al ai an ao : Nat) (fa st en cm fi im nm om : Int32) (x : Int32)  : kI l yX3_refused wsX3_refused ({ frames := 0, cells := 0, slots := 0, locals := 0 }) D (kTy cI cF cJ) [.ref mq, .int x] [(mq, .inr (3, [.int fa, .ref ak, .ref ad, .int st, .int en, .int cm, .int fi, .ref ah, .ref am, .ref ap, .ref ag, .ref au, .ref ax, .ref al, .ref ai, .int im, .ref an, .int nm, .ref ao, .int om]))] [(mq, .inr (3, [.int x, .ref ak, .ref ad, .int st, .int en, .int cm, .int fi, .ref ah, .ref am, .ref ap, .ref ag, .ref au, .ref ax, .ref al, .ref ai, .int im, .ref an, .int nm, .ref ao, .int om]))] (rRef x) := by
  refine kI_of (cc := cX3_refused) (nL := 2) (ty := .boolean) (own := RX3) (lv := [(0, .ref mq), (1, .int x)]) (by decide) rfl rfl (Nat.le_of_ble_eq_true rfl) rfl (by unfold rRef; repeat (first | rfl | split)) ?_
  intro p e s m args below meth c A ls Q C hA hK hP hD hS hl hret
  obtain ⟨hx, hb, hr, hml, hown, hts, hlocks⟩ := C
  have k_53 := hts (.fieldLink RX3 53 "BranchFiltersModel" "fault" "I") (by decide +kernel)
  have inX3 : ∀ w ∈ wsX30, w ∈ wsX3_refused := by decide +kernel
  refine lv_aload_n hx hb dX3_refused_0 rfl (lv_at hl 0 rfl) ?_
  refine lv_iload_n hx hb dX3_refused_1 rfl (lv_at hl 1 rfl) ?_
  refine kPut (D := D) (ci := 3) (v := .int x) (ty := .int) (C := RX3) (T := TX3) (N := 20) (ws' := [(mq, .inr (3, [.int x, .ref ak, .ref ad, .int st, .int en, .int cm, .int fi, .ref ah, .ref am, .ref ap, .ref ag, .ref au, .ref ax, .ref al, .ref ai, .int im, .ref an, .int nm, .ref ao, .int om]))]) hx hb hts inX3 tyX3 tyX3_ok nmX3 hown hK hP hD hS 0 rfl rfl 0 (by decide) k_53 rfl (by decide +kernel) (rfl) (by first | rfl | decide) (Nat.le_of_ble_eq_true rfl) rfl dX3_refused_2 (fun H locs hP hD hS => ?_)
  refine lv_iload_n hx hb dX3_refused_5 rfl (lv_at hl 1 rfl) ?_
  refine lv_if_le (tgt := 13) hx hb dX3_refused_6 (by decide) (fun c_1 => ?_) (fun c_1 => ?_)
  · refine lv_iconst (v := 0) hx hb dX3_refused_13 (by decide) ?_
    have e9 : rRef x = 0 := if_pos c_1
    exact hret _ _ _ _ _ dX3_refused_14 (by rw [e9]) (hP) (hD) hS
  · refine lv_iconst (v := 1) hx hb dX3_refused_9 (by decide) ?_
    refine lv_goto (tgt := 14) hx hb dX3_refused_10 (by decide) ?_
    have e9 : rRef x = 1 := if_neg c_1
    exact hret _ _ _ _ _ dX3_refused_14 (by rw [e9]) (hP) (hD) hS

def rIn (x : Int32) (y : Int32) (z : Int32) : Int32 := (if x < y then 0 else (if z < x then 0 else 1))

set_option maxHeartbeats 4000000 in
set_option maxRecDepth 100000 in
theorem c_X3_isIn (l : Launch) (D : va_G) (cI cF cJ : ClassId) (x y z : Int32)  : kI l yX3_isIn wsX3_isIn ({ frames := 0, cells := 0, slots := 0, locals := 0 }) D (kTy cI cF cJ) [.int x, .int y, .int z] [] [] (rIn x y z) := by
  refine kI_of (cc := cX3_isIn) (nL := 3) (ty := .boolean) (own := RX3) (lv := [(0, .int x), (1, .int y), (2, .int z)]) (by decide) rfl rfl (Nat.le_of_ble_eq_true rfl) rfl (by unfold rIn; repeat (first | rfl | split)) ?_
  intro p e s m args below meth c A ls Q C hA hK hP hD hS hl hret
  obtain ⟨hx, hb, hr, hml, hown, hts, hlocks⟩ := C
  refine lv_iload_n hx hb dX3_isIn_0 rfl (lv_at hl 0 rfl) ?_
  refine lv_iload_n hx hb dX3_isIn_1 rfl (lv_at hl 1 rfl) ?_
  refine lv_icmp_lt (tgt := 14) hx hb dX3_isIn_2 (by decide) (fun c_1 => ?_) (fun c_1 => ?_)
  · refine lv_iconst (v := 0) hx hb dX3_isIn_14 (by decide) ?_
    have e9 : rIn x y z = 0 := if_pos c_1
    exact hret _ _ _ _ _ dX3_isIn_15 (by rw [e9]) (hP) (hD) hS
  · refine lv_iload_n hx hb dX3_isIn_5 rfl (lv_at hl 0 rfl) ?_
    refine lv_iload_n hx hb dX3_isIn_6 rfl (lv_at hl 2 rfl) ?_
    refine lv_icmp_gt (tgt := 14) hx hb dX3_isIn_7 (by decide) (fun c_2 => ?_) (fun c_2 => ?_)
    · refine lv_iconst (v := 0) hx hb dX3_isIn_14 (by decide) ?_
      have e9 : rIn x y z = 0 := (if_neg c_1).trans (if_pos c_2)
      exact hret _ _ _ _ _ dX3_isIn_15 (by rw [e9]) (hP) (hD) hS
    · refine lv_iconst (v := 1) hx hb dX3_isIn_10 (by decide) ?_
      refine lv_goto (tgt := 15) hx hb dX3_isIn_11 (by decide) ?_
      have e9 : rIn x y z = 1 := (if_neg c_1).trans (if_neg c_2)
      exact hret _ _ _ _ _ dX3_isIn_15 (by rw [e9]) (hP) (hD) hS

def rEnd (x : Int32) : Int32 := (if x = 0 then 1 else (if x = 255 then 1 else 0))

set_option maxHeartbeats 4000000 in
set_option maxRecDepth 100000 in
theorem c_X3_isEnd (l : Launch) (D : va_G) (cI cF cJ : ClassId) (x : Int32)  : kI l yX3_isEnd wsX3_isEnd ({ frames := 0, cells := 0, slots := 0, locals := 0 }) D (kTy cI cF cJ) [.int x] [] [] (rEnd x) := by
  refine kI_of (cc := cX3_isEnd) (nL := 1) (ty := .boolean) (own := RX3) (lv := [(0, .int x)]) (by decide) rfl rfl (Nat.le_of_ble_eq_true rfl) rfl (by unfold rEnd; repeat (first | rfl | split)) ?_
  intro p e s m args below meth c A ls Q C hA hK hP hD hS hl hret
  obtain ⟨hx, hb, hr, hml, hown, hts, hlocks⟩ := C
  refine lv_iload_n hx hb dX3_isEnd_0 rfl (lv_at hl 0 rfl) ?_
  refine lv_if_eq (tgt := 11) hx hb dX3_isEnd_1 (by decide) (fun c_1 => ?_) (fun c_1 => ?_)
  · refine lv_iconst (v := 1) hx hb dX3_isEnd_11 (by decide) ?_
    refine lv_goto (tgt := 16) hx hb dX3_isEnd_12 (by decide) ?_
    have e9 : rEnd x = 1 := if_pos c_1
    exact hret _ _ _ _ _ dX3_isEnd_16 (by rw [e9]) (hP) (hD) hS
  · refine lv_iload_n hx hb dX3_isEnd_4 rfl (lv_at hl 0 rfl) ?_
    refine lv_sipush (v := 255) hx hb dX3_isEnd_5 (by decide) ?_
    refine lv_icmp_ne (tgt := 15) hx hb dX3_isEnd_8 (by decide) (fun c_2 => ?_) (fun c_2 => ?_)
    · refine lv_iconst (v := 0) hx hb dX3_isEnd_15 (by decide) ?_
      have e9 : rEnd x = 0 := (if_neg c_1).trans (if_neg c_2)
      exact hret _ _ _ _ _ dX3_isEnd_16 (by rw [e9]) (hP) (hD) hS
    · refine lv_iconst (v := 1) hx hb dX3_isEnd_11 (by decide) ?_
      refine lv_goto (tgt := 16) hx hb dX3_isEnd_12 (by decide) ?_
      have e9 : rEnd x = 1 := (if_neg c_1).trans (if_pos c_2)
      exact hret _ _ _ _ _ dX3_isEnd_16 (by rw [e9]) (hP) (hD) hS

def rNeed (x : Int32) : Int32 := (if 2 ≤ x then (if x = 2 then 5 else (if x = 7 then 8 else 4)) else 1)

set_option maxHeartbeats 4000000 in
set_option maxRecDepth 100000 in
theorem c_X3_needs (l : Launch) (D : va_G) (cI cF cJ : ClassId) (x : Int32)  : kI l yX3_needs wsX3_needs ({ frames := 0, cells := 0, slots := 0, locals := 0 }) D (kTy cI cF cJ) [.int x] [] [] (rNeed x) := by
  refine kI_of (cc := cX3_needs) (nL := 1) (ty := .int) (own := RX3) (lv := [(0, .int x)]) (by decide) rfl rfl (Nat.le_of_ble_eq_true rfl) rfl (rfl) ?_
  intro p e s m args below meth c A ls Q C hA hK hP hD hS hl hret
  obtain ⟨hx, hb, hr, hml, hown, hts, hlocks⟩ := C
  refine lv_iload_n hx hb dX3_needs_0 rfl (lv_at hl 0 rfl) ?_
  refine lv_iconst (v := 2) hx hb dX3_needs_1 (by decide) ?_
  refine lv_icmp_ge (tgt := 9) hx hb dX3_needs_2 (by decide) (fun c_1 => ?_) (fun c_1 => ?_)
  · refine lv_iload_n hx hb dX3_needs_9 rfl (lv_at hl 0 rfl) ?_
    refine lv_iconst (v := 2) hx hb dX3_needs_10 (by decide) ?_
    refine lv_icmp_ne (tgt := 18) hx hb dX3_needs_11 (by decide) (fun c_2 => ?_) (fun c_2 => ?_)
    · refine lv_iload_n hx hb dX3_needs_18 rfl (lv_at hl 0 rfl) ?_
      refine lv_bipush (v := 7) hx hb dX3_needs_19 (by decide) ?_
      refine lv_icmp_ne (tgt := 29) hx hb dX3_needs_21 (by decide) (fun c_3 => ?_) (fun c_3 => ?_)
      · refine lv_iconst (v := 4) hx hb dX3_needs_29 (by decide) ?_
        have e9 : rNeed x = 4 := (if_pos c_1).trans ((if_neg c_2).trans (if_neg c_3))
        exact hret _ _ _ _ _ dX3_needs_30 (by rw [e9]) (hP) (hD) hS
      · refine lv_bipush (v := 8) hx hb dX3_needs_24 (by decide) ?_
        refine lv_goto (tgt := 30) hx hb dX3_needs_26 (by decide) ?_
        have e9 : rNeed x = 8 := (if_pos c_1).trans ((if_neg c_2).trans (if_pos c_3))
        exact hret _ _ _ _ _ dX3_needs_30 (by rw [e9]) (hP) (hD) hS
    · refine lv_iconst (v := 5) hx hb dX3_needs_14 (by decide) ?_
      refine lv_goto (tgt := 30) hx hb dX3_needs_15 (by decide) ?_
      have e9 : rNeed x = 5 := (if_pos c_1).trans (if_pos c_2)
      exact hret _ _ _ _ _ dX3_needs_30 (by rw [e9]) (hP) (hD) hS
  · refine lv_iconst (v := 1) hx hb dX3_needs_5 (by decide) ?_
    refine lv_goto (tgt := 30) hx hb dX3_needs_6 (by decide) ?_
    have e9 : rNeed x = 1 := if_neg c_1
    exact hret _ _ _ _ _ dX3_needs_30 (by rw [e9]) (hP) (hD) hS

def rMd (en : Int32) (x : Int32) (y : Int32) : Int32 := (if en = 0 then (x - y) else (x + y))

set_option maxHeartbeats 4000000 in
set_option maxRecDepth 100000 in
theorem c_X3_moved (l : Launch) (D : va_G) (cI cF cJ : ClassId) (mq ak ad ah am ap ag au ax al ai an ao : Nat) (fa st en cm fi im nm om : Int32) (x y : Int32)  : kI l yX3_moved wsX3_moved ({ frames := 0, cells := 0, slots := 0, locals := 0 }) D (kTy cI cF cJ) [.ref mq, .int x, .int y] [(mq, .inr (3, [.int fa, .ref ak, .ref ad, .int st, .int en, .int cm, .int fi, .ref ah, .ref am, .ref ap, .ref ag, .ref au, .ref ax, .ref al, .ref ai, .int im, .ref an, .int nm, .ref ao, .int om]))] [(mq, .inr (3, [.int fa, .ref ak, .ref ad, .int st, .int en, .int cm, .int fi, .ref ah, .ref am, .ref ap, .ref ag, .ref au, .ref ax, .ref al, .ref ai, .int im, .ref an, .int nm, .ref ao, .int om]))] (rMd en x y) := by
  refine kI_of (cc := cX3_moved) (nL := 3) (ty := .int) (own := RX3) (lv := [(0, .ref mq), (1, .int x), (2, .int y)]) (by decide) rfl rfl (Nat.le_of_ble_eq_true rfl) rfl (rfl) ?_
  intro p e s m args below meth c A ls Q C hA hK hP hD hS hl hret
  obtain ⟨hx, hb, hr, hml, hown, hts, hlocks⟩ := C
  have k_16 := hts (.fieldLink RX3 16 "BranchFiltersModel" "encoding" "Z") (by decide +kernel)
  have inX3 : ∀ w ∈ wsX30, w ∈ wsX3_moved := by decide +kernel
  refine lv_aload_n hx hb dX3_moved_0 rfl (lv_at hl 0 rfl) ?_
  refine va_get (D := D) (ci := 3) (v := .int en) (C := RX3) (T := TX3) (N := 20) hx hb hts inX3 hown hK hP 0 rfl rfl 4 (by decide) k_16 (fun _ h9 => h9) rfl dX3_moved_1 ?_
  refine lv_if_eq (tgt := 13) hx hb dX3_moved_4 (by decide) (fun c_1 => ?_) (fun c_1 => ?_)
  · refine lv_iload_n hx hb dX3_moved_13 rfl (lv_at hl 1 rfl) ?_
    refine lv_iload_n hx hb dX3_moved_14 rfl (lv_at hl 2 rfl) ?_
    refine lv_isub hx hb dX3_moved_15 ?_
    have e9 : rMd en x y = (x - y) := if_pos c_1
    exact hret _ _ _ _ _ dX3_moved_16 (by rw [e9]) (hP) (hD) hS
  · refine lv_iload_n hx hb dX3_moved_7 rfl (lv_at hl 1 rfl) ?_
    refine lv_iload_n hx hb dX3_moved_8 rfl (lv_at hl 2 rfl) ?_
    refine lv_iadd hx hb dX3_moved_9 ?_
    refine lv_goto (tgt := 16) hx hb dX3_moved_10 (by decide) ?_
    have e9 : rMd en x y = (x + y) := if_neg c_1
    exact hret _ _ _ _ _ dX3_moved_16 (by rw [e9]) (hP) (hD) hS

set_option maxHeartbeats 4000000 in
set_option maxRecDepth 100000 in
theorem c_X3_at (l : Launch) (D : va_G) (cI cF cJ : ClassId) (mq ak ad ah am ap ag au ax al ai an ao : Nat) (fa st en cm fi im nm om : Int32) (i k : Nat) (hf : Nat → Int32) (hi : i < 4) (hk : k < 16) : kI l yX3_at wsX3_at ({ frames := 0, cells := 0, slots := 0, locals := 0 }) D (kTy cI cF cJ) [.ref mq, .int (nI i), .int (nI k)] [(mq, .inr (3, [.int fa, .ref ak, .ref ad, .int st, .int en, .int cm, .int fi, .ref ah, .ref am, .ref ap, .ref ag, .ref au, .ref ax, .ref al, .ref ai, .int im, .ref an, .int nm, .ref ao, .int om])), (ah, .inl (cI, 64, .inl hf))] [(mq, .inr (3, [.int fa, .ref ak, .ref ad, .int st, .int en, .int cm, .int fi, .ref ah, .ref am, .ref ap, .ref ag, .ref au, .ref ax, .ref al, .ref ai, .int im, .ref an, .int nm, .ref ao, .int om])), (ah, .inl (cI, 64, .inl hf))] (hf (16 * i + k)) := by
  refine kI_of (cc := cX3_at) (nL := 3) (ty := .int) (own := RX3) (lv := [(0, .ref mq), (1, .int (nI i)), (2, .int (nI k))]) (by decide) rfl rfl (Nat.le_of_ble_eq_true rfl) rfl (rfl) ?_
  intro p e s m args below meth c A ls Q C hA hK hP hD hS hl hret
  obtain ⟨hx, hb, hr, hml, hown, hts, hlocks⟩ := C
  have k_20 := hts (.fieldLink RX3 20 "BranchFiltersModel" "held" "[I") (by decide +kernel)
  have inX3 : ∀ w ∈ wsX30, w ∈ wsX3_at := by decide +kernel
  refine lv_aload_n hx hb dX3_at_0 rfl (lv_at hl 0 rfl) ?_
  refine va_get (D := D) (ci := 3) (v := .ref ah) (C := RX3) (T := TX3) (N := 20) hx hb hts inX3 hown hK hP 0 rfl rfl 7 (by decide) k_20 (fun _ h9 => h9) rfl dX3_at_1 ?_
  refine lv_bipush (v := 16) hx hb dX3_at_4 (by decide) ?_
  refine lv_iload_n hx hb dX3_at_6 rfl (lv_at hl 1 rfl) ?_
  refine lv_imul hx hb dX3_at_7 ?_
  refine kTop (y := nI (16 * i)) (pk_mul 16 i) ?_
  refine lv_iload_n hx hb dX3_at_8 rfl (lv_at hl 2 rfl) ?_
  refine lv_iadd hx hb dX3_at_9 ?_
  refine kTop (y := nI ((16 * i) + k)) (nI_add (16 * i) k) ?_
  refine kIald (k := ((16 * i) + k)) hx hb hK hP 1 0 rfl rfl (rfl) (by omega) (by omega) dX3_at_10 ?_
  exact hret _ _ _ _ _ dX3_at_11 (rfl) (hP) (hD) hS

set_option maxHeartbeats 4000000 in
set_option maxRecDepth 100000 in
theorem c_X3_change (l : Launch) (D : va_G) (cI cF cJ : ClassId) (mq ak ad ah am ap ag au ax al ai an ao : Nat) (fa st en cm fi im nm om : Int32) (i k : Nat) (v : Int32) (hf : Nat → Int32) (hi : i < 4) (hk : k < 16) : kV l yX3_change wsX3_change ({ frames := 0, cells := 0, slots := 0, locals := 0 }) D (kTy cI cF cJ) [.ref mq, .int (nI i), .int (nI k), .int v] [(mq, .inr (3, [.int fa, .ref ak, .ref ad, .int st, .int en, .int cm, .int fi, .ref ah, .ref am, .ref ap, .ref ag, .ref au, .ref ax, .ref al, .ref ai, .int im, .ref an, .int nm, .ref ao, .int om])), (ah, .inl (cI, 64, .inl hf))] [(mq, .inr (3, [.int fa, .ref ak, .ref ad, .int st, .int en, .int cm, .int fi, .ref ah, .ref am, .ref ap, .ref ag, .ref au, .ref ax, .ref al, .ref ai, .int im, .ref an, .int nm, .ref ao, .int om])), (ah, .inl (cI, 64, .inl (upd hf (16 * i + k) (v &&& 255))))] := by
  refine kV_of (cc := cX3_change) (nL := 4) (own := RX3) (lv := [(0, .ref mq), (1, .int (nI i)), (2, .int (nI k)), (3, .int v)]) (by decide) rfl rfl (Nat.le_of_ble_eq_true rfl) rfl ?_
  intro p e s m args below meth c A ls Q C hA hK hP hD hS hl hret
  obtain ⟨hx, hb, hr, hml, hown, hts, hlocks⟩ := C
  have k_20 := hts (.fieldLink RX3 20 "BranchFiltersModel" "held" "[I") (by decide +kernel)
  have inX3 : ∀ w ∈ wsX30, w ∈ wsX3_change := by decide +kernel
  refine lv_aload_n hx hb dX3_change_0 rfl (lv_at hl 0 rfl) ?_
  refine va_get (D := D) (ci := 3) (v := .ref ah) (C := RX3) (T := TX3) (N := 20) hx hb hts inX3 hown hK hP 0 rfl rfl 7 (by decide) k_20 (fun _ h9 => h9) rfl dX3_change_1 ?_
  refine lv_bipush (v := 16) hx hb dX3_change_4 (by decide) ?_
  refine lv_iload_n hx hb dX3_change_6 rfl (lv_at hl 1 rfl) ?_
  refine lv_imul hx hb dX3_change_7 ?_
  refine kTop (y := nI (16 * i)) (pk_mul 16 i) ?_
  refine lv_iload_n hx hb dX3_change_8 rfl (lv_at hl 2 rfl) ?_
  refine lv_iadd hx hb dX3_change_9 ?_
  refine kTop (y := nI ((16 * i) + k)) (nI_add (16 * i) k) ?_
  refine lv_iload_n hx hb dX3_change_10 rfl (lv_at hl 3 rfl) ?_
  refine lv_sipush (v := 255) hx hb dX3_change_11 (by decide) ?_
  refine lv_iand hx hb dX3_change_14 ?_
  refine kIast (k := ((16 * i) + k)) (ws' := [(mq, .inr (3, [.int fa, .ref ak, .ref ad, .int st, .int en, .int cm, .int fi, .ref ah, .ref am, .ref ap, .ref ag, .ref au, .ref ax, .ref al, .ref ai, .int im, .ref an, .int nm, .ref ao, .int om])), (ah, .inl (cI, 64, .inl (upd hf ((16 * i) + k) (v &&& 255))))]) hx hb hK hP hD hS 1 0 rfl rfl (rfl) (by omega) (by omega) rfl dX3_change_15 (fun H locs hP hD hS => ?_)
  exact hret _ _ _ _ dX3_change_16 (hP) (hD) hS

def rHi (i : Nat) (k : Nat) (hf : Nat → Int32) : Int32 := (((((hf (16 * i + k)) <<< ((24 : Int32) &&& 31)) ||| ((hf (16 * i + (k + 1))) <<< ((16 : Int32) &&& 31))) ||| ((hf (16 * i + (k + 2))) <<< ((8 : Int32) &&& 31))) ||| (hf (16 * i + (k + 3))))

set_option maxHeartbeats 4000000 in
set_option maxRecDepth 100000 in
theorem c_X3_high (l : Launch) (D : va_G) (cI cF cJ : ClassId) (mq ak ad ah am ap ag au ax al ai an ao : Nat) (fa st en cm fi im nm om : Int32) (i k : Nat) (hf : Nat → Int32) (hi : i < 4) (hk : k + 3 < 16) : kI l yX3_high wsX3_high ({ frames := 1, cells := 0, slots := 0, locals := 22 }) D (kTy cI cF cJ) [.ref mq, .int (nI i), .int (nI k)] [(mq, .inr (3, [.int fa, .ref ak, .ref ad, .int st, .int en, .int cm, .int fi, .ref ah, .ref am, .ref ap, .ref ag, .ref au, .ref ax, .ref al, .ref ai, .int im, .ref an, .int nm, .ref ao, .int om])), (ah, .inl (cI, 64, .inl hf))] [(mq, .inr (3, [.int fa, .ref ak, .ref ad, .int st, .int en, .int cm, .int fi, .ref ah, .ref am, .ref ap, .ref ag, .ref au, .ref ax, .ref al, .ref ai, .int im, .ref an, .int nm, .ref ao, .int om])), (ah, .inl (cI, 64, .inl hf))] (rHi i k hf) := by
  refine kI_of (cc := cX3_high) (nL := 3) (ty := .int) (own := RX3) (lv := [(0, .ref mq), (1, .int (nI i)), (2, .int (nI k))]) (by decide) rfl rfl (Nat.le_of_ble_eq_true rfl) rfl (rfl) ?_
  intro p e s m args below meth c A ls Q C hA hK hP hD hS hl hret
  obtain ⟨hx, hb, hr, hml, hown, hts, hlocks⟩ := C
  refine lv_aload_n hx hb dX3_high_0 rfl (lv_at hl 0 rfl) ?_
  refine lv_iload_n hx hb dX3_high_1 rfl (lv_at hl 1 rfl) ?_
  refine lv_iload_n hx hb dX3_high_2 rfl (lv_at hl 2 rfl) ?_
  refine kCallI (As := [.int (nI i), .int (nI k)]) (wc := [(mq, .inr (3, [.int fa, .ref ak, .ref ad, .int st, .int en, .int cm, .int fi, .ref ah, .ref am, .ref ap, .ref ag, .ref au, .ref ax, .ref al, .ref ai, .int im, .ref an, .int nm, .ref ao, .int om])), (ah, .inl (cI, 64, .inl hf))]) (wr := []) (ws' := [(mq, .inr (3, [.int fa, .ref ak, .ref ad, .int st, .int en, .int cm, .int fi, .ref ah, .ref am, .ref ap, .ref ag, .ref au, .ref ax, .ref al, .ref ai, .int im, .ref an, .int nm, .ref ao, .int om])), (ah, .inl (cI, 64, .inl hf))]) (ci := 3) (C := RX3) ⟨hx, hb, hml, hown, hts⟩ (c_X3_at l D cI cF cJ mq ak ad ah am ap ag au ax al ai an ao fa st en cm fi im nm om i k hf (by omega) (by omega)) (cwV 2 hts gX3_high_X3_at rfl rfl rfl (by decide +kernel) ⟨Nat.le_of_ble_eq_true rfl, Nat.le_of_ble_eq_true rfl⟩) hK hP hD hS hA [0, 1] [] [0, 1] rfl rfl rfl rfl (by decide) rfl rfl rfl rfl rfl hl.1 (Nat.le_of_ble_eq_true rfl) ⟨Nat.zero_le _, Nat.zero_le _⟩ dX3_high_3 (fun H locs hP hD hS => ?_) rfl
  refine lv_bipush (v := 24) hx hb dX3_high_6 (by decide) ?_
  refine lv_ishl hx hb dX3_high_8 ?_
  refine lv_aload_n hx hb dX3_high_9 rfl (lv_at hl 0 rfl) ?_
  refine lv_iload_n hx hb dX3_high_10 rfl (lv_at hl 1 rfl) ?_
  refine lv_iload_n hx hb dX3_high_11 rfl (lv_at hl 2 rfl) ?_
  refine lv_iconst (v := 1) hx hb dX3_high_12 (by decide) ?_
  refine lv_iadd hx hb dX3_high_13 ?_
  refine kTop (y := nI (k + 1)) (nI_add k 1) ?_
  refine kCallI (As := [.int (nI i), .int (nI (k + 1))]) (wc := [(mq, .inr (3, [.int fa, .ref ak, .ref ad, .int st, .int en, .int cm, .int fi, .ref ah, .ref am, .ref ap, .ref ag, .ref au, .ref ax, .ref al, .ref ai, .int im, .ref an, .int nm, .ref ao, .int om])), (ah, .inl (cI, 64, .inl hf))]) (wr := []) (ws' := [(mq, .inr (3, [.int fa, .ref ak, .ref ad, .int st, .int en, .int cm, .int fi, .ref ah, .ref am, .ref ap, .ref ag, .ref au, .ref ax, .ref al, .ref ai, .int im, .ref an, .int nm, .ref ao, .int om])), (ah, .inl (cI, 64, .inl hf))]) (ci := 3) (C := RX3) ⟨hx, hb, hml, hown, hts⟩ (c_X3_at l D cI cF cJ mq ak ad ah am ap ag au ax al ai an ao fa st en cm fi im nm om i (k + 1) hf (by omega) (by omega)) (cwV 2 hts gX3_high_X3_at rfl rfl rfl (by decide +kernel) ⟨Nat.le_of_ble_eq_true rfl, Nat.le_of_ble_eq_true rfl⟩) hK hP hD hS hA [0, 1] [] [0, 1] rfl rfl rfl rfl (by decide) rfl rfl rfl rfl rfl hl.1 (Nat.le_of_ble_eq_true rfl) ⟨Nat.zero_le _, Nat.zero_le _⟩ dX3_high_14 (fun H locs hP hD hS => ?_) rfl
  refine lv_bipush (v := 16) hx hb dX3_high_17 (by decide) ?_
  refine lv_ishl hx hb dX3_high_19 ?_
  refine lv_ior hx hb dX3_high_20 ?_
  refine lv_aload_n hx hb dX3_high_21 rfl (lv_at hl 0 rfl) ?_
  refine lv_iload_n hx hb dX3_high_22 rfl (lv_at hl 1 rfl) ?_
  refine lv_iload_n hx hb dX3_high_23 rfl (lv_at hl 2 rfl) ?_
  refine lv_iconst (v := 2) hx hb dX3_high_24 (by decide) ?_
  refine lv_iadd hx hb dX3_high_25 ?_
  refine kTop (y := nI (k + 2)) (nI_add k 2) ?_
  refine kCallI (As := [.int (nI i), .int (nI (k + 2))]) (wc := [(mq, .inr (3, [.int fa, .ref ak, .ref ad, .int st, .int en, .int cm, .int fi, .ref ah, .ref am, .ref ap, .ref ag, .ref au, .ref ax, .ref al, .ref ai, .int im, .ref an, .int nm, .ref ao, .int om])), (ah, .inl (cI, 64, .inl hf))]) (wr := []) (ws' := [(mq, .inr (3, [.int fa, .ref ak, .ref ad, .int st, .int en, .int cm, .int fi, .ref ah, .ref am, .ref ap, .ref ag, .ref au, .ref ax, .ref al, .ref ai, .int im, .ref an, .int nm, .ref ao, .int om])), (ah, .inl (cI, 64, .inl hf))]) (ci := 3) (C := RX3) ⟨hx, hb, hml, hown, hts⟩ (c_X3_at l D cI cF cJ mq ak ad ah am ap ag au ax al ai an ao fa st en cm fi im nm om i (k + 2) hf (by omega) (by omega)) (cwV 2 hts gX3_high_X3_at rfl rfl rfl (by decide +kernel) ⟨Nat.le_of_ble_eq_true rfl, Nat.le_of_ble_eq_true rfl⟩) hK hP hD hS hA [0, 1] [] [0, 1] rfl rfl rfl rfl (by decide) rfl rfl rfl rfl rfl hl.1 (Nat.le_of_ble_eq_true rfl) ⟨Nat.zero_le _, Nat.zero_le _⟩ dX3_high_26 (fun H locs hP hD hS => ?_) rfl
  refine lv_bipush (v := 8) hx hb dX3_high_29 (by decide) ?_
  refine lv_ishl hx hb dX3_high_31 ?_
  refine lv_ior hx hb dX3_high_32 ?_
  refine lv_aload_n hx hb dX3_high_33 rfl (lv_at hl 0 rfl) ?_
  refine lv_iload_n hx hb dX3_high_34 rfl (lv_at hl 1 rfl) ?_
  refine lv_iload_n hx hb dX3_high_35 rfl (lv_at hl 2 rfl) ?_
  refine lv_iconst (v := 3) hx hb dX3_high_36 (by decide) ?_
  refine lv_iadd hx hb dX3_high_37 ?_
  refine kTop (y := nI (k + 3)) (nI_add k 3) ?_
  refine kCallI (As := [.int (nI i), .int (nI (k + 3))]) (wc := [(mq, .inr (3, [.int fa, .ref ak, .ref ad, .int st, .int en, .int cm, .int fi, .ref ah, .ref am, .ref ap, .ref ag, .ref au, .ref ax, .ref al, .ref ai, .int im, .ref an, .int nm, .ref ao, .int om])), (ah, .inl (cI, 64, .inl hf))]) (wr := []) (ws' := [(mq, .inr (3, [.int fa, .ref ak, .ref ad, .int st, .int en, .int cm, .int fi, .ref ah, .ref am, .ref ap, .ref ag, .ref au, .ref ax, .ref al, .ref ai, .int im, .ref an, .int nm, .ref ao, .int om])), (ah, .inl (cI, 64, .inl hf))]) (ci := 3) (C := RX3) ⟨hx, hb, hml, hown, hts⟩ (c_X3_at l D cI cF cJ mq ak ad ah am ap ag au ax al ai an ao fa st en cm fi im nm om i (k + 3) hf (by omega) (by omega)) (cwV 2 hts gX3_high_X3_at rfl rfl rfl (by decide +kernel) ⟨Nat.le_of_ble_eq_true rfl, Nat.le_of_ble_eq_true rfl⟩) hK hP hD hS hA [0, 1] [] [0, 1] rfl rfl rfl rfl (by decide) rfl rfl rfl rfl rfl hl.1 (Nat.le_of_ble_eq_true rfl) ⟨Nat.zero_le _, Nat.zero_le _⟩ dX3_high_38 (fun H locs hP hD hS => ?_) rfl
  refine lv_ior hx hb dX3_high_41 ?_
  have e9 : rHi i k hf = (((((hf (16 * i + k)) <<< ((24 : Int32) &&& 31)) ||| ((hf (16 * i + (k + 1))) <<< ((16 : Int32) &&& 31))) ||| ((hf (16 * i + (k + 2))) <<< ((8 : Int32) &&& 31))) ||| (hf (16 * i + (k + 3)))) := rfl
  exact hret _ _ _ _ _ dX3_high_42 (by rw [e9]) (hP) (hD) hS

def rLo (i : Nat) (k : Nat) (hf : Nat → Int32) : Int32 := (((((hf (16 * i + (k + 3))) <<< ((24 : Int32) &&& 31)) ||| ((hf (16 * i + (k + 2))) <<< ((16 : Int32) &&& 31))) ||| ((hf (16 * i + (k + 1))) <<< ((8 : Int32) &&& 31))) ||| (hf (16 * i + k)))

set_option maxHeartbeats 4000000 in
set_option maxRecDepth 100000 in
theorem c_X3_low (l : Launch) (D : va_G) (cI cF cJ : ClassId) (mq ak ad ah am ap ag au ax al ai an ao : Nat) (fa st en cm fi im nm om : Int32) (i k : Nat) (hf : Nat → Int32) (hi : i < 4) (hk : k + 3 < 16) : kI l yX3_low wsX3_low ({ frames := 1, cells := 0, slots := 0, locals := 22 }) D (kTy cI cF cJ) [.ref mq, .int (nI i), .int (nI k)] [(mq, .inr (3, [.int fa, .ref ak, .ref ad, .int st, .int en, .int cm, .int fi, .ref ah, .ref am, .ref ap, .ref ag, .ref au, .ref ax, .ref al, .ref ai, .int im, .ref an, .int nm, .ref ao, .int om])), (ah, .inl (cI, 64, .inl hf))] [(mq, .inr (3, [.int fa, .ref ak, .ref ad, .int st, .int en, .int cm, .int fi, .ref ah, .ref am, .ref ap, .ref ag, .ref au, .ref ax, .ref al, .ref ai, .int im, .ref an, .int nm, .ref ao, .int om])), (ah, .inl (cI, 64, .inl hf))] (rLo i k hf) := by
  refine kI_of (cc := cX3_low) (nL := 3) (ty := .int) (own := RX3) (lv := [(0, .ref mq), (1, .int (nI i)), (2, .int (nI k))]) (by decide) rfl rfl (Nat.le_of_ble_eq_true rfl) rfl (rfl) ?_
  intro p e s m args below meth c A ls Q C hA hK hP hD hS hl hret
  obtain ⟨hx, hb, hr, hml, hown, hts, hlocks⟩ := C
  refine lv_aload_n hx hb dX3_low_0 rfl (lv_at hl 0 rfl) ?_
  refine lv_iload_n hx hb dX3_low_1 rfl (lv_at hl 1 rfl) ?_
  refine lv_iload_n hx hb dX3_low_2 rfl (lv_at hl 2 rfl) ?_
  refine lv_iconst (v := 3) hx hb dX3_low_3 (by decide) ?_
  refine lv_iadd hx hb dX3_low_4 ?_
  refine kTop (y := nI (k + 3)) (nI_add k 3) ?_
  refine kCallI (As := [.int (nI i), .int (nI (k + 3))]) (wc := [(mq, .inr (3, [.int fa, .ref ak, .ref ad, .int st, .int en, .int cm, .int fi, .ref ah, .ref am, .ref ap, .ref ag, .ref au, .ref ax, .ref al, .ref ai, .int im, .ref an, .int nm, .ref ao, .int om])), (ah, .inl (cI, 64, .inl hf))]) (wr := []) (ws' := [(mq, .inr (3, [.int fa, .ref ak, .ref ad, .int st, .int en, .int cm, .int fi, .ref ah, .ref am, .ref ap, .ref ag, .ref au, .ref ax, .ref al, .ref ai, .int im, .ref an, .int nm, .ref ao, .int om])), (ah, .inl (cI, 64, .inl hf))]) (ci := 3) (C := RX3) ⟨hx, hb, hml, hown, hts⟩ (c_X3_at l D cI cF cJ mq ak ad ah am ap ag au ax al ai an ao fa st en cm fi im nm om i (k + 3) hf (by omega) (by omega)) (cwV 2 hts gX3_low_X3_at rfl rfl rfl (by decide +kernel) ⟨Nat.le_of_ble_eq_true rfl, Nat.le_of_ble_eq_true rfl⟩) hK hP hD hS hA [0, 1] [] [0, 1] rfl rfl rfl rfl (by decide) rfl rfl rfl rfl rfl hl.1 (Nat.le_of_ble_eq_true rfl) ⟨Nat.zero_le _, Nat.zero_le _⟩ dX3_low_5 (fun H locs hP hD hS => ?_) rfl
  refine lv_bipush (v := 24) hx hb dX3_low_8 (by decide) ?_
  refine lv_ishl hx hb dX3_low_10 ?_
  refine lv_aload_n hx hb dX3_low_11 rfl (lv_at hl 0 rfl) ?_
  refine lv_iload_n hx hb dX3_low_12 rfl (lv_at hl 1 rfl) ?_
  refine lv_iload_n hx hb dX3_low_13 rfl (lv_at hl 2 rfl) ?_
  refine lv_iconst (v := 2) hx hb dX3_low_14 (by decide) ?_
  refine lv_iadd hx hb dX3_low_15 ?_
  refine kTop (y := nI (k + 2)) (nI_add k 2) ?_
  refine kCallI (As := [.int (nI i), .int (nI (k + 2))]) (wc := [(mq, .inr (3, [.int fa, .ref ak, .ref ad, .int st, .int en, .int cm, .int fi, .ref ah, .ref am, .ref ap, .ref ag, .ref au, .ref ax, .ref al, .ref ai, .int im, .ref an, .int nm, .ref ao, .int om])), (ah, .inl (cI, 64, .inl hf))]) (wr := []) (ws' := [(mq, .inr (3, [.int fa, .ref ak, .ref ad, .int st, .int en, .int cm, .int fi, .ref ah, .ref am, .ref ap, .ref ag, .ref au, .ref ax, .ref al, .ref ai, .int im, .ref an, .int nm, .ref ao, .int om])), (ah, .inl (cI, 64, .inl hf))]) (ci := 3) (C := RX3) ⟨hx, hb, hml, hown, hts⟩ (c_X3_at l D cI cF cJ mq ak ad ah am ap ag au ax al ai an ao fa st en cm fi im nm om i (k + 2) hf (by omega) (by omega)) (cwV 2 hts gX3_low_X3_at rfl rfl rfl (by decide +kernel) ⟨Nat.le_of_ble_eq_true rfl, Nat.le_of_ble_eq_true rfl⟩) hK hP hD hS hA [0, 1] [] [0, 1] rfl rfl rfl rfl (by decide) rfl rfl rfl rfl rfl hl.1 (Nat.le_of_ble_eq_true rfl) ⟨Nat.zero_le _, Nat.zero_le _⟩ dX3_low_16 (fun H locs hP hD hS => ?_) rfl
  refine lv_bipush (v := 16) hx hb dX3_low_19 (by decide) ?_
  refine lv_ishl hx hb dX3_low_21 ?_
  refine lv_ior hx hb dX3_low_22 ?_
  refine lv_aload_n hx hb dX3_low_23 rfl (lv_at hl 0 rfl) ?_
  refine lv_iload_n hx hb dX3_low_24 rfl (lv_at hl 1 rfl) ?_
  refine lv_iload_n hx hb dX3_low_25 rfl (lv_at hl 2 rfl) ?_
  refine lv_iconst (v := 1) hx hb dX3_low_26 (by decide) ?_
  refine lv_iadd hx hb dX3_low_27 ?_
  refine kTop (y := nI (k + 1)) (nI_add k 1) ?_
  refine kCallI (As := [.int (nI i), .int (nI (k + 1))]) (wc := [(mq, .inr (3, [.int fa, .ref ak, .ref ad, .int st, .int en, .int cm, .int fi, .ref ah, .ref am, .ref ap, .ref ag, .ref au, .ref ax, .ref al, .ref ai, .int im, .ref an, .int nm, .ref ao, .int om])), (ah, .inl (cI, 64, .inl hf))]) (wr := []) (ws' := [(mq, .inr (3, [.int fa, .ref ak, .ref ad, .int st, .int en, .int cm, .int fi, .ref ah, .ref am, .ref ap, .ref ag, .ref au, .ref ax, .ref al, .ref ai, .int im, .ref an, .int nm, .ref ao, .int om])), (ah, .inl (cI, 64, .inl hf))]) (ci := 3) (C := RX3) ⟨hx, hb, hml, hown, hts⟩ (c_X3_at l D cI cF cJ mq ak ad ah am ap ag au ax al ai an ao fa st en cm fi im nm om i (k + 1) hf (by omega) (by omega)) (cwV 2 hts gX3_low_X3_at rfl rfl rfl (by decide +kernel) ⟨Nat.le_of_ble_eq_true rfl, Nat.le_of_ble_eq_true rfl⟩) hK hP hD hS hA [0, 1] [] [0, 1] rfl rfl rfl rfl (by decide) rfl rfl rfl rfl rfl hl.1 (Nat.le_of_ble_eq_true rfl) ⟨Nat.zero_le _, Nat.zero_le _⟩ dX3_low_28 (fun H locs hP hD hS => ?_) rfl
  refine lv_bipush (v := 8) hx hb dX3_low_31 (by decide) ?_
  refine lv_ishl hx hb dX3_low_33 ?_
  refine lv_ior hx hb dX3_low_34 ?_
  refine lv_aload_n hx hb dX3_low_35 rfl (lv_at hl 0 rfl) ?_
  refine lv_iload_n hx hb dX3_low_36 rfl (lv_at hl 1 rfl) ?_
  refine lv_iload_n hx hb dX3_low_37 rfl (lv_at hl 2 rfl) ?_
  refine kCallI (As := [.int (nI i), .int (nI k)]) (wc := [(mq, .inr (3, [.int fa, .ref ak, .ref ad, .int st, .int en, .int cm, .int fi, .ref ah, .ref am, .ref ap, .ref ag, .ref au, .ref ax, .ref al, .ref ai, .int im, .ref an, .int nm, .ref ao, .int om])), (ah, .inl (cI, 64, .inl hf))]) (wr := []) (ws' := [(mq, .inr (3, [.int fa, .ref ak, .ref ad, .int st, .int en, .int cm, .int fi, .ref ah, .ref am, .ref ap, .ref ag, .ref au, .ref ax, .ref al, .ref ai, .int im, .ref an, .int nm, .ref ao, .int om])), (ah, .inl (cI, 64, .inl hf))]) (ci := 3) (C := RX3) ⟨hx, hb, hml, hown, hts⟩ (c_X3_at l D cI cF cJ mq ak ad ah am ap ag au ax al ai an ao fa st en cm fi im nm om i k hf (by omega) (by omega)) (cwV 2 hts gX3_low_X3_at rfl rfl rfl (by decide +kernel) ⟨Nat.le_of_ble_eq_true rfl, Nat.le_of_ble_eq_true rfl⟩) hK hP hD hS hA [0, 1] [] [0, 1] rfl rfl rfl rfl (by decide) rfl rfl rfl rfl rfl hl.1 (Nat.le_of_ble_eq_true rfl) ⟨Nat.zero_le _, Nat.zero_le _⟩ dX3_low_38 (fun H locs hP hD hS => ?_) rfl
  refine lv_ior hx hb dX3_low_41 ?_
  have e9 : rLo i k hf = (((((hf (16 * i + (k + 3))) <<< ((24 : Int32) &&& 31)) ||| ((hf (16 * i + (k + 2))) <<< ((16 : Int32) &&& 31))) ||| ((hf (16 * i + (k + 1))) <<< ((8 : Int32) &&& 31))) ||| (hf (16 * i + k))) := rfl
  exact hret _ _ _ _ _ dX3_low_42 (by rw [e9]) (hP) (hD) hS

def rSetHi (i : Nat) (k : Nat) (v : Int32) (hf : Nat → Int32) : (Nat → Int32) := upd (upd (upd (upd hf (16 * i + (k + 0)) ((v >>> ((24 : Int32) &&& 31)) &&& 255)) (16 * i + (k + 1)) ((v >>> ((16 : Int32) &&& 31)) &&& 255)) (16 * i + (k + 2)) ((v >>> ((8 : Int32) &&& 31)) &&& 255)) (16 * i + (k + 3)) ((v >>> ((0 : Int32) &&& 31)) &&& 255)

set_option maxHeartbeats 4000000 in
set_option maxRecDepth 100000 in
theorem c_X3_setHigh (l : Launch) (D : va_G) (cI cF cJ : ClassId) (mq ak ad ah am ap ag au ax al ai an ao : Nat) (fa st en cm fi im nm om : Int32) (i k : Nat) (v : Int32) (hf : Nat → Int32) (hi : i < 4) (hk : k + 3 < 16) : kV l yX3_setHigh wsX3_setHigh ({ frames := 1, cells := 0, slots := 0, locals := 23 }) D (kTy cI cF cJ) [.ref mq, .int (nI i), .int (nI k), .int v] [(mq, .inr (3, [.int fa, .ref ak, .ref ad, .int st, .int en, .int cm, .int fi, .ref ah, .ref am, .ref ap, .ref ag, .ref au, .ref ax, .ref al, .ref ai, .int im, .ref an, .int nm, .ref ao, .int om])), (ah, .inl (cI, 64, .inl hf))] [(mq, .inr (3, [.int fa, .ref ak, .ref ad, .int st, .int en, .int cm, .int fi, .ref ah, .ref am, .ref ap, .ref ag, .ref au, .ref ax, .ref al, .ref ai, .int im, .ref an, .int nm, .ref ao, .int om])), (ah, .inl (cI, 64, .inl (rSetHi i k v hf)))] := by
  refine kV_of (cc := cX3_setHigh) (nL := 5) (own := RX3) (lv := [(0, .ref mq), (1, .int (nI i)), (2, .int (nI k)), (3, .int v)]) (by decide) rfl rfl (Nat.le_of_ble_eq_true rfl) rfl ?_
  intro p e s m args below meth c A ls Q C hA hK hP hD hS hl hret
  obtain ⟨hx, hb, hr, hml, hown, hts, hlocks⟩ := C
  refine lv_iconst (v := 0) hx hb dX3_setHigh_0 (by decide) ?_
  refine lv_istore (lv' := [(4, .int 0), (0, .ref mq), (1, .int (nI i)), (2, .int (nI k)), (3, .int v)]) hx hb dX3_setHigh_1 hl (by decide) rfl (fun ls hl => ?_)
  refine lv_iload hx hb dX3_setHigh_3 (lv_at hl 0 rfl) ?_
  refine lv_iconst (v := 4) hx hb dX3_setHigh_5 (by decide) ?_
  refine lv_icmp_ge (tgt := 34) hx hb dX3_setHigh_6 (by decide) (fun c_1 => ?_) (fun c_1 => ?_)
  · exact absurd c_1 (by decide)
  · refine lv_aload_n hx hb dX3_setHigh_9 rfl (lv_at hl 1 rfl) ?_
    refine lv_iload_n hx hb dX3_setHigh_10 rfl (lv_at hl 2 rfl) ?_
    refine lv_iload_n hx hb dX3_setHigh_11 rfl (lv_at hl 3 rfl) ?_
    refine lv_iload hx hb dX3_setHigh_12 (lv_at hl 0 rfl) ?_
    refine lv_iadd hx hb dX3_setHigh_14 ?_
    refine kTop (y := nI (k + 0)) (nI_add k 0) ?_
    refine lv_iload_n hx hb dX3_setHigh_15 rfl (lv_at hl 4 rfl) ?_
    refine lv_bipush (v := 24) hx hb dX3_setHigh_16 (by decide) ?_
    refine lv_bipush (v := 8) hx hb dX3_setHigh_18 (by decide) ?_
    refine lv_iload hx hb dX3_setHigh_20 (lv_at hl 0 rfl) ?_
    refine lv_imul hx hb dX3_setHigh_22 ?_
    refine kTop (y := 0) (by decide) ?_
    refine lv_isub hx hb dX3_setHigh_23 ?_
    refine kTop (y := 24) (by decide) ?_
    refine lv_ishr hx hb dX3_setHigh_24 ?_
    refine kCallV (As := [.int (nI i), .int (nI (k + 0)), .int (v >>> ((24 : Int32) &&& 31))]) (wc := [(mq, .inr (3, [.int fa, .ref ak, .ref ad, .int st, .int en, .int cm, .int fi, .ref ah, .ref am, .ref ap, .ref ag, .ref au, .ref ax, .ref al, .ref ai, .int im, .ref an, .int nm, .ref ao, .int om])), (ah, .inl (cI, 64, .inl hf))]) (wr := []) (ws' := [(mq, .inr (3, [.int fa, .ref ak, .ref ad, .int st, .int en, .int cm, .int fi, .ref ah, .ref am, .ref ap, .ref ag, .ref au, .ref ax, .ref al, .ref ai, .int im, .ref an, .int nm, .ref ao, .int om])), (ah, .inl (cI, 64, .inl (upd hf (16 * i + (k + 0)) ((v >>> ((24 : Int32) &&& 31)) &&& 255))))]) (ci := 3) (C := RX3) ⟨hx, hb, hml, hown, hts⟩ (c_X3_change l D cI cF cJ mq ak ad ah am ap ag au ax al ai an ao fa st en cm fi im nm om i (k + 0) (v >>> ((24 : Int32) &&& 31)) hf (by omega) (by omega)) (cwV 3 hts gX3_setHigh_X3_change rfl rfl rfl (by decide +kernel) ⟨Nat.le_of_ble_eq_true rfl, Nat.le_of_ble_eq_true rfl⟩) hK hP hD hS hA [0, 1] [] [0, 1] rfl rfl rfl rfl (by decide) rfl rfl rfl rfl rfl hl.1 (Nat.le_of_ble_eq_true rfl) ⟨Nat.zero_le _, Nat.zero_le _⟩ dX3_setHigh_25 (fun H locs hP hD hS => ?_) rfl
    refine lv_iinc (v := 1) (lv' := [(4, .int 1), (0, .ref mq), (1, .int (nI i)), (2, .int (nI k)), (3, .int v)]) hx hb dX3_setHigh_28 hl (k := 0) rfl (by decide) (by decide) rfl (fun ls hl => ?_)
    refine lv_goto (tgt := 3) hx hb dX3_setHigh_31 (by decide) ?_
    refine lv_iload hx hb dX3_setHigh_3 (lv_at hl 0 rfl) ?_
    refine lv_iconst (v := 4) hx hb dX3_setHigh_5 (by decide) ?_
    refine lv_icmp_ge (tgt := 34) hx hb dX3_setHigh_6 (by decide) (fun c_2 => ?_) (fun c_2 => ?_)
    · exact absurd c_2 (by decide)
    · refine lv_aload_n hx hb dX3_setHigh_9 rfl (lv_at hl 1 rfl) ?_
      refine lv_iload_n hx hb dX3_setHigh_10 rfl (lv_at hl 2 rfl) ?_
      refine lv_iload_n hx hb dX3_setHigh_11 rfl (lv_at hl 3 rfl) ?_
      refine lv_iload hx hb dX3_setHigh_12 (lv_at hl 0 rfl) ?_
      refine lv_iadd hx hb dX3_setHigh_14 ?_
      refine kTop (y := nI (k + 1)) (nI_add k 1) ?_
      refine lv_iload_n hx hb dX3_setHigh_15 rfl (lv_at hl 4 rfl) ?_
      refine lv_bipush (v := 24) hx hb dX3_setHigh_16 (by decide) ?_
      refine lv_bipush (v := 8) hx hb dX3_setHigh_18 (by decide) ?_
      refine lv_iload hx hb dX3_setHigh_20 (lv_at hl 0 rfl) ?_
      refine lv_imul hx hb dX3_setHigh_22 ?_
      refine kTop (y := 8) (by decide) ?_
      refine lv_isub hx hb dX3_setHigh_23 ?_
      refine kTop (y := 16) (by decide) ?_
      refine lv_ishr hx hb dX3_setHigh_24 ?_
      refine kCallV (As := [.int (nI i), .int (nI (k + 1)), .int (v >>> ((16 : Int32) &&& 31))]) (wc := [(mq, .inr (3, [.int fa, .ref ak, .ref ad, .int st, .int en, .int cm, .int fi, .ref ah, .ref am, .ref ap, .ref ag, .ref au, .ref ax, .ref al, .ref ai, .int im, .ref an, .int nm, .ref ao, .int om])), (ah, .inl (cI, 64, .inl (upd hf (16 * i + (k + 0)) ((v >>> ((24 : Int32) &&& 31)) &&& 255))))]) (wr := []) (ws' := [(mq, .inr (3, [.int fa, .ref ak, .ref ad, .int st, .int en, .int cm, .int fi, .ref ah, .ref am, .ref ap, .ref ag, .ref au, .ref ax, .ref al, .ref ai, .int im, .ref an, .int nm, .ref ao, .int om])), (ah, .inl (cI, 64, .inl (upd (upd hf (16 * i + (k + 0)) ((v >>> ((24 : Int32) &&& 31)) &&& 255)) (16 * i + (k + 1)) ((v >>> ((16 : Int32) &&& 31)) &&& 255))))]) (ci := 3) (C := RX3) ⟨hx, hb, hml, hown, hts⟩ (c_X3_change l D cI cF cJ mq ak ad ah am ap ag au ax al ai an ao fa st en cm fi im nm om i (k + 1) (v >>> ((16 : Int32) &&& 31)) (upd hf (16 * i + (k + 0)) ((v >>> ((24 : Int32) &&& 31)) &&& 255)) (by omega) (by omega)) (cwV 3 hts gX3_setHigh_X3_change rfl rfl rfl (by decide +kernel) ⟨Nat.le_of_ble_eq_true rfl, Nat.le_of_ble_eq_true rfl⟩) hK hP hD hS hA [0, 1] [] [0, 1] rfl rfl rfl rfl (by decide) rfl rfl rfl rfl rfl hl.1 (Nat.le_of_ble_eq_true rfl) ⟨Nat.zero_le _, Nat.zero_le _⟩ dX3_setHigh_25 (fun H locs hP hD hS => ?_) rfl
      refine lv_iinc (v := 2) (lv' := [(4, .int 2), (0, .ref mq), (1, .int (nI i)), (2, .int (nI k)), (3, .int v)]) hx hb dX3_setHigh_28 hl (k := 0) rfl (by decide) (by decide) rfl (fun ls hl => ?_)
      refine lv_goto (tgt := 3) hx hb dX3_setHigh_31 (by decide) ?_
      refine lv_iload hx hb dX3_setHigh_3 (lv_at hl 0 rfl) ?_
      refine lv_iconst (v := 4) hx hb dX3_setHigh_5 (by decide) ?_
      refine lv_icmp_ge (tgt := 34) hx hb dX3_setHigh_6 (by decide) (fun c_3 => ?_) (fun c_3 => ?_)
      · exact absurd c_3 (by decide)
      · refine lv_aload_n hx hb dX3_setHigh_9 rfl (lv_at hl 1 rfl) ?_
        refine lv_iload_n hx hb dX3_setHigh_10 rfl (lv_at hl 2 rfl) ?_
        refine lv_iload_n hx hb dX3_setHigh_11 rfl (lv_at hl 3 rfl) ?_
        refine lv_iload hx hb dX3_setHigh_12 (lv_at hl 0 rfl) ?_
        refine lv_iadd hx hb dX3_setHigh_14 ?_
        refine kTop (y := nI (k + 2)) (nI_add k 2) ?_
        refine lv_iload_n hx hb dX3_setHigh_15 rfl (lv_at hl 4 rfl) ?_
        refine lv_bipush (v := 24) hx hb dX3_setHigh_16 (by decide) ?_
        refine lv_bipush (v := 8) hx hb dX3_setHigh_18 (by decide) ?_
        refine lv_iload hx hb dX3_setHigh_20 (lv_at hl 0 rfl) ?_
        refine lv_imul hx hb dX3_setHigh_22 ?_
        refine kTop (y := 16) (by decide) ?_
        refine lv_isub hx hb dX3_setHigh_23 ?_
        refine kTop (y := 8) (by decide) ?_
        refine lv_ishr hx hb dX3_setHigh_24 ?_
        refine kCallV (As := [.int (nI i), .int (nI (k + 2)), .int (v >>> ((8 : Int32) &&& 31))]) (wc := [(mq, .inr (3, [.int fa, .ref ak, .ref ad, .int st, .int en, .int cm, .int fi, .ref ah, .ref am, .ref ap, .ref ag, .ref au, .ref ax, .ref al, .ref ai, .int im, .ref an, .int nm, .ref ao, .int om])), (ah, .inl (cI, 64, .inl (upd (upd hf (16 * i + (k + 0)) ((v >>> ((24 : Int32) &&& 31)) &&& 255)) (16 * i + (k + 1)) ((v >>> ((16 : Int32) &&& 31)) &&& 255))))]) (wr := []) (ws' := [(mq, .inr (3, [.int fa, .ref ak, .ref ad, .int st, .int en, .int cm, .int fi, .ref ah, .ref am, .ref ap, .ref ag, .ref au, .ref ax, .ref al, .ref ai, .int im, .ref an, .int nm, .ref ao, .int om])), (ah, .inl (cI, 64, .inl (upd (upd (upd hf (16 * i + (k + 0)) ((v >>> ((24 : Int32) &&& 31)) &&& 255)) (16 * i + (k + 1)) ((v >>> ((16 : Int32) &&& 31)) &&& 255)) (16 * i + (k + 2)) ((v >>> ((8 : Int32) &&& 31)) &&& 255))))]) (ci := 3) (C := RX3) ⟨hx, hb, hml, hown, hts⟩ (c_X3_change l D cI cF cJ mq ak ad ah am ap ag au ax al ai an ao fa st en cm fi im nm om i (k + 2) (v >>> ((8 : Int32) &&& 31)) (upd (upd hf (16 * i + (k + 0)) ((v >>> ((24 : Int32) &&& 31)) &&& 255)) (16 * i + (k + 1)) ((v >>> ((16 : Int32) &&& 31)) &&& 255)) (by omega) (by omega)) (cwV 3 hts gX3_setHigh_X3_change rfl rfl rfl (by decide +kernel) ⟨Nat.le_of_ble_eq_true rfl, Nat.le_of_ble_eq_true rfl⟩) hK hP hD hS hA [0, 1] [] [0, 1] rfl rfl rfl rfl (by decide) rfl rfl rfl rfl rfl hl.1 (Nat.le_of_ble_eq_true rfl) ⟨Nat.zero_le _, Nat.zero_le _⟩ dX3_setHigh_25 (fun H locs hP hD hS => ?_) rfl
        refine lv_iinc (v := 3) (lv' := [(4, .int 3), (0, .ref mq), (1, .int (nI i)), (2, .int (nI k)), (3, .int v)]) hx hb dX3_setHigh_28 hl (k := 0) rfl (by decide) (by decide) rfl (fun ls hl => ?_)
        refine lv_goto (tgt := 3) hx hb dX3_setHigh_31 (by decide) ?_
        refine lv_iload hx hb dX3_setHigh_3 (lv_at hl 0 rfl) ?_
        refine lv_iconst (v := 4) hx hb dX3_setHigh_5 (by decide) ?_
        refine lv_icmp_ge (tgt := 34) hx hb dX3_setHigh_6 (by decide) (fun c_4 => ?_) (fun c_4 => ?_)
        · exact absurd c_4 (by decide)
        · refine lv_aload_n hx hb dX3_setHigh_9 rfl (lv_at hl 1 rfl) ?_
          refine lv_iload_n hx hb dX3_setHigh_10 rfl (lv_at hl 2 rfl) ?_
          refine lv_iload_n hx hb dX3_setHigh_11 rfl (lv_at hl 3 rfl) ?_
          refine lv_iload hx hb dX3_setHigh_12 (lv_at hl 0 rfl) ?_
          refine lv_iadd hx hb dX3_setHigh_14 ?_
          refine kTop (y := nI (k + 3)) (nI_add k 3) ?_
          refine lv_iload_n hx hb dX3_setHigh_15 rfl (lv_at hl 4 rfl) ?_
          refine lv_bipush (v := 24) hx hb dX3_setHigh_16 (by decide) ?_
          refine lv_bipush (v := 8) hx hb dX3_setHigh_18 (by decide) ?_
          refine lv_iload hx hb dX3_setHigh_20 (lv_at hl 0 rfl) ?_
          refine lv_imul hx hb dX3_setHigh_22 ?_
          refine kTop (y := 24) (by decide) ?_
          refine lv_isub hx hb dX3_setHigh_23 ?_
          refine kTop (y := 0) (by decide) ?_
          refine lv_ishr hx hb dX3_setHigh_24 ?_
          refine kCallV (As := [.int (nI i), .int (nI (k + 3)), .int (v >>> ((0 : Int32) &&& 31))]) (wc := [(mq, .inr (3, [.int fa, .ref ak, .ref ad, .int st, .int en, .int cm, .int fi, .ref ah, .ref am, .ref ap, .ref ag, .ref au, .ref ax, .ref al, .ref ai, .int im, .ref an, .int nm, .ref ao, .int om])), (ah, .inl (cI, 64, .inl (upd (upd (upd hf (16 * i + (k + 0)) ((v >>> ((24 : Int32) &&& 31)) &&& 255)) (16 * i + (k + 1)) ((v >>> ((16 : Int32) &&& 31)) &&& 255)) (16 * i + (k + 2)) ((v >>> ((8 : Int32) &&& 31)) &&& 255))))]) (wr := []) (ws' := [(mq, .inr (3, [.int fa, .ref ak, .ref ad, .int st, .int en, .int cm, .int fi, .ref ah, .ref am, .ref ap, .ref ag, .ref au, .ref ax, .ref al, .ref ai, .int im, .ref an, .int nm, .ref ao, .int om])), (ah, .inl (cI, 64, .inl (upd (upd (upd (upd hf (16 * i + (k + 0)) ((v >>> ((24 : Int32) &&& 31)) &&& 255)) (16 * i + (k + 1)) ((v >>> ((16 : Int32) &&& 31)) &&& 255)) (16 * i + (k + 2)) ((v >>> ((8 : Int32) &&& 31)) &&& 255)) (16 * i + (k + 3)) ((v >>> ((0 : Int32) &&& 31)) &&& 255))))]) (ci := 3) (C := RX3) ⟨hx, hb, hml, hown, hts⟩ (c_X3_change l D cI cF cJ mq ak ad ah am ap ag au ax al ai an ao fa st en cm fi im nm om i (k + 3) (v >>> ((0 : Int32) &&& 31)) (upd (upd (upd hf (16 * i + (k + 0)) ((v >>> ((24 : Int32) &&& 31)) &&& 255)) (16 * i + (k + 1)) ((v >>> ((16 : Int32) &&& 31)) &&& 255)) (16 * i + (k + 2)) ((v >>> ((8 : Int32) &&& 31)) &&& 255)) (by omega) (by omega)) (cwV 3 hts gX3_setHigh_X3_change rfl rfl rfl (by decide +kernel) ⟨Nat.le_of_ble_eq_true rfl, Nat.le_of_ble_eq_true rfl⟩) hK hP hD hS hA [0, 1] [] [0, 1] rfl rfl rfl rfl (by decide) rfl rfl rfl rfl rfl hl.1 (Nat.le_of_ble_eq_true rfl) ⟨Nat.zero_le _, Nat.zero_le _⟩ dX3_setHigh_25 (fun H locs hP hD hS => ?_) rfl
          refine lv_iinc (v := 4) (lv' := [(4, .int 4), (0, .ref mq), (1, .int (nI i)), (2, .int (nI k)), (3, .int v)]) hx hb dX3_setHigh_28 hl (k := 0) rfl (by decide) (by decide) rfl (fun ls hl => ?_)
          refine lv_goto (tgt := 3) hx hb dX3_setHigh_31 (by decide) ?_
          refine lv_iload hx hb dX3_setHigh_3 (lv_at hl 0 rfl) ?_
          refine lv_iconst (v := 4) hx hb dX3_setHigh_5 (by decide) ?_
          refine lv_icmp_ge (tgt := 34) hx hb dX3_setHigh_6 (by decide) (fun c_5 => ?_) (fun c_5 => ?_)
          · have e9 : rSetHi i k v hf = upd (upd (upd (upd hf (16 * i + (k + 0)) ((v >>> ((24 : Int32) &&& 31)) &&& 255)) (16 * i + (k + 1)) ((v >>> ((16 : Int32) &&& 31)) &&& 255)) (16 * i + (k + 2)) ((v >>> ((8 : Int32) &&& 31)) &&& 255)) (16 * i + (k + 3)) ((v >>> ((0 : Int32) &&& 31)) &&& 255) := rfl
            exact hret _ _ _ _ dX3_setHigh_34 (by rw [e9]; exact hP) (by rw [e9]; exact hD) hS
          · exact absurd c_5 (by decide)

def rSetLo (i : Nat) (k : Nat) (v : Int32) (hf : Nat → Int32) : (Nat → Int32) := upd (upd (upd (upd hf (16 * i + (k + 0)) ((v >>> ((0 : Int32) &&& 31)) &&& 255)) (16 * i + (k + 1)) ((v >>> ((8 : Int32) &&& 31)) &&& 255)) (16 * i + (k + 2)) ((v >>> ((16 : Int32) &&& 31)) &&& 255)) (16 * i + (k + 3)) ((v >>> ((24 : Int32) &&& 31)) &&& 255)

set_option maxHeartbeats 4000000 in
set_option maxRecDepth 100000 in
theorem c_X3_setLow (l : Launch) (D : va_G) (cI cF cJ : ClassId) (mq ak ad ah am ap ag au ax al ai an ao : Nat) (fa st en cm fi im nm om : Int32) (i k : Nat) (v : Int32) (hf : Nat → Int32) (hi : i < 4) (hk : k + 3 < 16) : kV l yX3_setLow wsX3_setLow ({ frames := 1, cells := 0, slots := 0, locals := 23 }) D (kTy cI cF cJ) [.ref mq, .int (nI i), .int (nI k), .int v] [(mq, .inr (3, [.int fa, .ref ak, .ref ad, .int st, .int en, .int cm, .int fi, .ref ah, .ref am, .ref ap, .ref ag, .ref au, .ref ax, .ref al, .ref ai, .int im, .ref an, .int nm, .ref ao, .int om])), (ah, .inl (cI, 64, .inl hf))] [(mq, .inr (3, [.int fa, .ref ak, .ref ad, .int st, .int en, .int cm, .int fi, .ref ah, .ref am, .ref ap, .ref ag, .ref au, .ref ax, .ref al, .ref ai, .int im, .ref an, .int nm, .ref ao, .int om])), (ah, .inl (cI, 64, .inl (rSetLo i k v hf)))] := by
  refine kV_of (cc := cX3_setLow) (nL := 5) (own := RX3) (lv := [(0, .ref mq), (1, .int (nI i)), (2, .int (nI k)), (3, .int v)]) (by decide) rfl rfl (Nat.le_of_ble_eq_true rfl) rfl ?_
  intro p e s m args below meth c A ls Q C hA hK hP hD hS hl hret
  obtain ⟨hx, hb, hr, hml, hown, hts, hlocks⟩ := C
  refine lv_iconst (v := 0) hx hb dX3_setLow_0 (by decide) ?_
  refine lv_istore (lv' := [(4, .int 0), (0, .ref mq), (1, .int (nI i)), (2, .int (nI k)), (3, .int v)]) hx hb dX3_setLow_1 hl (by decide) rfl (fun ls hl => ?_)
  refine lv_iload hx hb dX3_setLow_3 (lv_at hl 0 rfl) ?_
  refine lv_iconst (v := 4) hx hb dX3_setLow_5 (by decide) ?_
  refine lv_icmp_ge (tgt := 31) hx hb dX3_setLow_6 (by decide) (fun c_1 => ?_) (fun c_1 => ?_)
  · exact absurd c_1 (by decide)
  · refine lv_aload_n hx hb dX3_setLow_9 rfl (lv_at hl 1 rfl) ?_
    refine lv_iload_n hx hb dX3_setLow_10 rfl (lv_at hl 2 rfl) ?_
    refine lv_iload_n hx hb dX3_setLow_11 rfl (lv_at hl 3 rfl) ?_
    refine lv_iload hx hb dX3_setLow_12 (lv_at hl 0 rfl) ?_
    refine lv_iadd hx hb dX3_setLow_14 ?_
    refine kTop (y := nI (k + 0)) (nI_add k 0) ?_
    refine lv_iload_n hx hb dX3_setLow_15 rfl (lv_at hl 4 rfl) ?_
    refine lv_bipush (v := 8) hx hb dX3_setLow_16 (by decide) ?_
    refine lv_iload hx hb dX3_setLow_18 (lv_at hl 0 rfl) ?_
    refine lv_imul hx hb dX3_setLow_20 ?_
    refine kTop (y := 0) (by decide) ?_
    refine lv_ishr hx hb dX3_setLow_21 ?_
    refine kCallV (As := [.int (nI i), .int (nI (k + 0)), .int (v >>> ((0 : Int32) &&& 31))]) (wc := [(mq, .inr (3, [.int fa, .ref ak, .ref ad, .int st, .int en, .int cm, .int fi, .ref ah, .ref am, .ref ap, .ref ag, .ref au, .ref ax, .ref al, .ref ai, .int im, .ref an, .int nm, .ref ao, .int om])), (ah, .inl (cI, 64, .inl hf))]) (wr := []) (ws' := [(mq, .inr (3, [.int fa, .ref ak, .ref ad, .int st, .int en, .int cm, .int fi, .ref ah, .ref am, .ref ap, .ref ag, .ref au, .ref ax, .ref al, .ref ai, .int im, .ref an, .int nm, .ref ao, .int om])), (ah, .inl (cI, 64, .inl (upd hf (16 * i + (k + 0)) ((v >>> ((0 : Int32) &&& 31)) &&& 255))))]) (ci := 3) (C := RX3) ⟨hx, hb, hml, hown, hts⟩ (c_X3_change l D cI cF cJ mq ak ad ah am ap ag au ax al ai an ao fa st en cm fi im nm om i (k + 0) (v >>> ((0 : Int32) &&& 31)) hf (by omega) (by omega)) (cwV 3 hts gX3_setLow_X3_change rfl rfl rfl (by decide +kernel) ⟨Nat.le_of_ble_eq_true rfl, Nat.le_of_ble_eq_true rfl⟩) hK hP hD hS hA [0, 1] [] [0, 1] rfl rfl rfl rfl (by decide) rfl rfl rfl rfl rfl hl.1 (Nat.le_of_ble_eq_true rfl) ⟨Nat.zero_le _, Nat.zero_le _⟩ dX3_setLow_22 (fun H locs hP hD hS => ?_) rfl
    refine lv_iinc (v := 1) (lv' := [(4, .int 1), (0, .ref mq), (1, .int (nI i)), (2, .int (nI k)), (3, .int v)]) hx hb dX3_setLow_25 hl (k := 0) rfl (by decide) (by decide) rfl (fun ls hl => ?_)
    refine lv_goto (tgt := 3) hx hb dX3_setLow_28 (by decide) ?_
    refine lv_iload hx hb dX3_setLow_3 (lv_at hl 0 rfl) ?_
    refine lv_iconst (v := 4) hx hb dX3_setLow_5 (by decide) ?_
    refine lv_icmp_ge (tgt := 31) hx hb dX3_setLow_6 (by decide) (fun c_2 => ?_) (fun c_2 => ?_)
    · exact absurd c_2 (by decide)
    · refine lv_aload_n hx hb dX3_setLow_9 rfl (lv_at hl 1 rfl) ?_
      refine lv_iload_n hx hb dX3_setLow_10 rfl (lv_at hl 2 rfl) ?_
      refine lv_iload_n hx hb dX3_setLow_11 rfl (lv_at hl 3 rfl) ?_
      refine lv_iload hx hb dX3_setLow_12 (lv_at hl 0 rfl) ?_
      refine lv_iadd hx hb dX3_setLow_14 ?_
      refine kTop (y := nI (k + 1)) (nI_add k 1) ?_
      refine lv_iload_n hx hb dX3_setLow_15 rfl (lv_at hl 4 rfl) ?_
      refine lv_bipush (v := 8) hx hb dX3_setLow_16 (by decide) ?_
      refine lv_iload hx hb dX3_setLow_18 (lv_at hl 0 rfl) ?_
      refine lv_imul hx hb dX3_setLow_20 ?_
      refine kTop (y := 8) (by decide) ?_
      refine lv_ishr hx hb dX3_setLow_21 ?_
      refine kCallV (As := [.int (nI i), .int (nI (k + 1)), .int (v >>> ((8 : Int32) &&& 31))]) (wc := [(mq, .inr (3, [.int fa, .ref ak, .ref ad, .int st, .int en, .int cm, .int fi, .ref ah, .ref am, .ref ap, .ref ag, .ref au, .ref ax, .ref al, .ref ai, .int im, .ref an, .int nm, .ref ao, .int om])), (ah, .inl (cI, 64, .inl (upd hf (16 * i + (k + 0)) ((v >>> ((0 : Int32) &&& 31)) &&& 255))))]) (wr := []) (ws' := [(mq, .inr (3, [.int fa, .ref ak, .ref ad, .int st, .int en, .int cm, .int fi, .ref ah, .ref am, .ref ap, .ref ag, .ref au, .ref ax, .ref al, .ref ai, .int im, .ref an, .int nm, .ref ao, .int om])), (ah, .inl (cI, 64, .inl (upd (upd hf (16 * i + (k + 0)) ((v >>> ((0 : Int32) &&& 31)) &&& 255)) (16 * i + (k + 1)) ((v >>> ((8 : Int32) &&& 31)) &&& 255))))]) (ci := 3) (C := RX3) ⟨hx, hb, hml, hown, hts⟩ (c_X3_change l D cI cF cJ mq ak ad ah am ap ag au ax al ai an ao fa st en cm fi im nm om i (k + 1) (v >>> ((8 : Int32) &&& 31)) (upd hf (16 * i + (k + 0)) ((v >>> ((0 : Int32) &&& 31)) &&& 255)) (by omega) (by omega)) (cwV 3 hts gX3_setLow_X3_change rfl rfl rfl (by decide +kernel) ⟨Nat.le_of_ble_eq_true rfl, Nat.le_of_ble_eq_true rfl⟩) hK hP hD hS hA [0, 1] [] [0, 1] rfl rfl rfl rfl (by decide) rfl rfl rfl rfl rfl hl.1 (Nat.le_of_ble_eq_true rfl) ⟨Nat.zero_le _, Nat.zero_le _⟩ dX3_setLow_22 (fun H locs hP hD hS => ?_) rfl
      refine lv_iinc (v := 2) (lv' := [(4, .int 2), (0, .ref mq), (1, .int (nI i)), (2, .int (nI k)), (3, .int v)]) hx hb dX3_setLow_25 hl (k := 0) rfl (by decide) (by decide) rfl (fun ls hl => ?_)
      refine lv_goto (tgt := 3) hx hb dX3_setLow_28 (by decide) ?_
      refine lv_iload hx hb dX3_setLow_3 (lv_at hl 0 rfl) ?_
      refine lv_iconst (v := 4) hx hb dX3_setLow_5 (by decide) ?_
      refine lv_icmp_ge (tgt := 31) hx hb dX3_setLow_6 (by decide) (fun c_3 => ?_) (fun c_3 => ?_)
      · exact absurd c_3 (by decide)
      · refine lv_aload_n hx hb dX3_setLow_9 rfl (lv_at hl 1 rfl) ?_
        refine lv_iload_n hx hb dX3_setLow_10 rfl (lv_at hl 2 rfl) ?_
        refine lv_iload_n hx hb dX3_setLow_11 rfl (lv_at hl 3 rfl) ?_
        refine lv_iload hx hb dX3_setLow_12 (lv_at hl 0 rfl) ?_
        refine lv_iadd hx hb dX3_setLow_14 ?_
        refine kTop (y := nI (k + 2)) (nI_add k 2) ?_
        refine lv_iload_n hx hb dX3_setLow_15 rfl (lv_at hl 4 rfl) ?_
        refine lv_bipush (v := 8) hx hb dX3_setLow_16 (by decide) ?_
        refine lv_iload hx hb dX3_setLow_18 (lv_at hl 0 rfl) ?_
        refine lv_imul hx hb dX3_setLow_20 ?_
        refine kTop (y := 16) (by decide) ?_
        refine lv_ishr hx hb dX3_setLow_21 ?_
        refine kCallV (As := [.int (nI i), .int (nI (k + 2)), .int (v >>> ((16 : Int32) &&& 31))]) (wc := [(mq, .inr (3, [.int fa, .ref ak, .ref ad, .int st, .int en, .int cm, .int fi, .ref ah, .ref am, .ref ap, .ref ag, .ref au, .ref ax, .ref al, .ref ai, .int im, .ref an, .int nm, .ref ao, .int om])), (ah, .inl (cI, 64, .inl (upd (upd hf (16 * i + (k + 0)) ((v >>> ((0 : Int32) &&& 31)) &&& 255)) (16 * i + (k + 1)) ((v >>> ((8 : Int32) &&& 31)) &&& 255))))]) (wr := []) (ws' := [(mq, .inr (3, [.int fa, .ref ak, .ref ad, .int st, .int en, .int cm, .int fi, .ref ah, .ref am, .ref ap, .ref ag, .ref au, .ref ax, .ref al, .ref ai, .int im, .ref an, .int nm, .ref ao, .int om])), (ah, .inl (cI, 64, .inl (upd (upd (upd hf (16 * i + (k + 0)) ((v >>> ((0 : Int32) &&& 31)) &&& 255)) (16 * i + (k + 1)) ((v >>> ((8 : Int32) &&& 31)) &&& 255)) (16 * i + (k + 2)) ((v >>> ((16 : Int32) &&& 31)) &&& 255))))]) (ci := 3) (C := RX3) ⟨hx, hb, hml, hown, hts⟩ (c_X3_change l D cI cF cJ mq ak ad ah am ap ag au ax al ai an ao fa st en cm fi im nm om i (k + 2) (v >>> ((16 : Int32) &&& 31)) (upd (upd hf (16 * i + (k + 0)) ((v >>> ((0 : Int32) &&& 31)) &&& 255)) (16 * i + (k + 1)) ((v >>> ((8 : Int32) &&& 31)) &&& 255)) (by omega) (by omega)) (cwV 3 hts gX3_setLow_X3_change rfl rfl rfl (by decide +kernel) ⟨Nat.le_of_ble_eq_true rfl, Nat.le_of_ble_eq_true rfl⟩) hK hP hD hS hA [0, 1] [] [0, 1] rfl rfl rfl rfl (by decide) rfl rfl rfl rfl rfl hl.1 (Nat.le_of_ble_eq_true rfl) ⟨Nat.zero_le _, Nat.zero_le _⟩ dX3_setLow_22 (fun H locs hP hD hS => ?_) rfl
        refine lv_iinc (v := 3) (lv' := [(4, .int 3), (0, .ref mq), (1, .int (nI i)), (2, .int (nI k)), (3, .int v)]) hx hb dX3_setLow_25 hl (k := 0) rfl (by decide) (by decide) rfl (fun ls hl => ?_)
        refine lv_goto (tgt := 3) hx hb dX3_setLow_28 (by decide) ?_
        refine lv_iload hx hb dX3_setLow_3 (lv_at hl 0 rfl) ?_
        refine lv_iconst (v := 4) hx hb dX3_setLow_5 (by decide) ?_
        refine lv_icmp_ge (tgt := 31) hx hb dX3_setLow_6 (by decide) (fun c_4 => ?_) (fun c_4 => ?_)
        · exact absurd c_4 (by decide)
        · refine lv_aload_n hx hb dX3_setLow_9 rfl (lv_at hl 1 rfl) ?_
          refine lv_iload_n hx hb dX3_setLow_10 rfl (lv_at hl 2 rfl) ?_
          refine lv_iload_n hx hb dX3_setLow_11 rfl (lv_at hl 3 rfl) ?_
          refine lv_iload hx hb dX3_setLow_12 (lv_at hl 0 rfl) ?_
          refine lv_iadd hx hb dX3_setLow_14 ?_
          refine kTop (y := nI (k + 3)) (nI_add k 3) ?_
          refine lv_iload_n hx hb dX3_setLow_15 rfl (lv_at hl 4 rfl) ?_
          refine lv_bipush (v := 8) hx hb dX3_setLow_16 (by decide) ?_
          refine lv_iload hx hb dX3_setLow_18 (lv_at hl 0 rfl) ?_
          refine lv_imul hx hb dX3_setLow_20 ?_
          refine kTop (y := 24) (by decide) ?_
          refine lv_ishr hx hb dX3_setLow_21 ?_
          refine kCallV (As := [.int (nI i), .int (nI (k + 3)), .int (v >>> ((24 : Int32) &&& 31))]) (wc := [(mq, .inr (3, [.int fa, .ref ak, .ref ad, .int st, .int en, .int cm, .int fi, .ref ah, .ref am, .ref ap, .ref ag, .ref au, .ref ax, .ref al, .ref ai, .int im, .ref an, .int nm, .ref ao, .int om])), (ah, .inl (cI, 64, .inl (upd (upd (upd hf (16 * i + (k + 0)) ((v >>> ((0 : Int32) &&& 31)) &&& 255)) (16 * i + (k + 1)) ((v >>> ((8 : Int32) &&& 31)) &&& 255)) (16 * i + (k + 2)) ((v >>> ((16 : Int32) &&& 31)) &&& 255))))]) (wr := []) (ws' := [(mq, .inr (3, [.int fa, .ref ak, .ref ad, .int st, .int en, .int cm, .int fi, .ref ah, .ref am, .ref ap, .ref ag, .ref au, .ref ax, .ref al, .ref ai, .int im, .ref an, .int nm, .ref ao, .int om])), (ah, .inl (cI, 64, .inl (upd (upd (upd (upd hf (16 * i + (k + 0)) ((v >>> ((0 : Int32) &&& 31)) &&& 255)) (16 * i + (k + 1)) ((v >>> ((8 : Int32) &&& 31)) &&& 255)) (16 * i + (k + 2)) ((v >>> ((16 : Int32) &&& 31)) &&& 255)) (16 * i + (k + 3)) ((v >>> ((24 : Int32) &&& 31)) &&& 255))))]) (ci := 3) (C := RX3) ⟨hx, hb, hml, hown, hts⟩ (c_X3_change l D cI cF cJ mq ak ad ah am ap ag au ax al ai an ao fa st en cm fi im nm om i (k + 3) (v >>> ((24 : Int32) &&& 31)) (upd (upd (upd hf (16 * i + (k + 0)) ((v >>> ((0 : Int32) &&& 31)) &&& 255)) (16 * i + (k + 1)) ((v >>> ((8 : Int32) &&& 31)) &&& 255)) (16 * i + (k + 2)) ((v >>> ((16 : Int32) &&& 31)) &&& 255)) (by omega) (by omega)) (cwV 3 hts gX3_setLow_X3_change rfl rfl rfl (by decide +kernel) ⟨Nat.le_of_ble_eq_true rfl, Nat.le_of_ble_eq_true rfl⟩) hK hP hD hS hA [0, 1] [] [0, 1] rfl rfl rfl rfl (by decide) rfl rfl rfl rfl rfl hl.1 (Nat.le_of_ble_eq_true rfl) ⟨Nat.zero_le _, Nat.zero_le _⟩ dX3_setLow_22 (fun H locs hP hD hS => ?_) rfl
          refine lv_iinc (v := 4) (lv' := [(4, .int 4), (0, .ref mq), (1, .int (nI i)), (2, .int (nI k)), (3, .int v)]) hx hb dX3_setLow_25 hl (k := 0) rfl (by decide) (by decide) rfl (fun ls hl => ?_)
          refine lv_goto (tgt := 3) hx hb dX3_setLow_28 (by decide) ?_
          refine lv_iload hx hb dX3_setLow_3 (lv_at hl 0 rfl) ?_
          refine lv_iconst (v := 4) hx hb dX3_setLow_5 (by decide) ?_
          refine lv_icmp_ge (tgt := 31) hx hb dX3_setLow_6 (by decide) (fun c_5 => ?_) (fun c_5 => ?_)
          · have e9 : rSetLo i k v hf = upd (upd (upd (upd hf (16 * i + (k + 0)) ((v >>> ((0 : Int32) &&& 31)) &&& 255)) (16 * i + (k + 1)) ((v >>> ((8 : Int32) &&& 31)) &&& 255)) (16 * i + (k + 2)) ((v >>> ((16 : Int32) &&& 31)) &&& 255)) (16 * i + (k + 3)) ((v >>> ((24 : Int32) &&& 31)) &&& 255) := rfl
            exact hret _ _ _ _ dX3_setLow_31 (by rw [e9]; exact hP) (by rw [e9]; exact hD) hS
          · exact absurd c_5 (by decide)

set_option maxHeartbeats 4000000 in
set_option maxRecDepth 100000 in
theorem c_X3_place (l : Launch) (D : va_G) (cI cF cJ : ClassId) (mq ak ad ah am ap ag au ax al ai an ao : Nat) (fa st en cm fi im nm om : Int32) (i : Nat) (gf : Nat → Int32) (hi : i < 4) : kI l yX3_place wsX3_place ({ frames := 0, cells := 0, slots := 0, locals := 0 }) D (kTy cI cF cJ) [.ref mq, .int (nI i)] [(mq, .inr (3, [.int fa, .ref ak, .ref ad, .int st, .int en, .int cm, .int fi, .ref ah, .ref am, .ref ap, .ref ag, .ref au, .ref ax, .ref al, .ref ai, .int im, .ref an, .int nm, .ref ao, .int om])), (ag, .inl (cI, 4, .inl gf))] [(mq, .inr (3, [.int fa, .ref ak, .ref ad, .int st, .int en, .int cm, .int fi, .ref ah, .ref am, .ref ap, .ref ag, .ref au, .ref ax, .ref al, .ref ai, .int im, .ref an, .int nm, .ref ao, .int om])), (ag, .inl (cI, 4, .inl gf))] (st + gf i) := by
  refine kI_of (cc := cX3_place) (nL := 2) (ty := .int) (own := RX3) (lv := [(0, .ref mq), (1, .int (nI i))]) (by decide) rfl rfl (Nat.le_of_ble_eq_true rfl) rfl (rfl) ?_
  intro p e s m args below meth c A ls Q C hA hK hP hD hS hl hret
  obtain ⟨hx, hb, hr, hml, hown, hts, hlocks⟩ := C
  have k_29 := hts (.fieldLink RX3 29 "BranchFiltersModel" "given" "[I") (by decide +kernel)
  have k_66 := hts (.fieldLink RX3 66 "BranchFiltersModel" "start" "I") (by decide +kernel)
  have inX3 : ∀ w ∈ wsX30, w ∈ wsX3_place := by decide +kernel
  refine lv_aload_n hx hb dX3_place_0 rfl (lv_at hl 0 rfl) ?_
  refine va_get (D := D) (ci := 3) (v := .int st) (C := RX3) (T := TX3) (N := 20) hx hb hts inX3 hown hK hP 0 rfl rfl 3 (by decide) k_66 (fun _ h9 => h9) rfl dX3_place_1 ?_
  refine lv_aload_n hx hb dX3_place_4 rfl (lv_at hl 0 rfl) ?_
  refine va_get (D := D) (ci := 3) (v := .ref ag) (C := RX3) (T := TX3) (N := 20) hx hb hts inX3 hown hK hP 0 rfl rfl 10 (by decide) k_29 (fun _ h9 => h9) rfl dX3_place_5 ?_
  refine lv_iload_n hx hb dX3_place_8 rfl (lv_at hl 1 rfl) ?_
  refine kIald (k := i) hx hb hK hP 1 0 rfl rfl (rfl) (by omega) (by omega) dX3_place_9 ?_
  refine lv_iadd hx hb dX3_place_10 ?_
  exact hret _ _ _ _ _ dX3_place_11 (rfl) (hP) (hD) hS

def rL4 (lf : Nat → Int32) (v : Int32) : Nat → Int32 := upd (upd (upd (upd lf 0 v) 1 v) 2 v) 3 v

set_option maxHeartbeats 4000000 in
set_option maxRecDepth 100000 in
theorem c_X3_anew (l : Launch) (D : va_G) (cI cF cJ : ClassId) (mq ak ad ah am ap ag au ax al ai an ao : Nat) (fa st en cm fi im nm om : Int32) (mf pf gf uf xf lf : Nat → Int32)  : kV l yX3_anew wsX3_anew ({ frames := 0, cells := 0, slots := 0, locals := 0 }) D (kTy cI cF cJ) [.ref mq] [(mq, .inr (3, [.int fa, .ref ak, .ref ad, .int st, .int en, .int cm, .int fi, .ref ah, .ref am, .ref ap, .ref ag, .ref au, .ref ax, .ref al, .ref ai, .int im, .ref an, .int nm, .ref ao, .int om])), (am, .inl (cI, 4, .inl mf)), (ap, .inl (cI, 128, .inl pf)), (ag, .inl (cI, 4, .inl gf)), (au, .inl (cI, 4, .inl uf)), (ax, .inl (cI, 4, .inl xf)), (al, .inl (cI, 4, .inl lf))] [(mq, .inr (3, [.int fa, .ref ak, .ref ad, .int st, .int en, .int 0, .int 0, .ref ah, .ref am, .ref ap, .ref ag, .ref au, .ref ax, .ref al, .ref ai, .int im, .ref an, .int nm, .ref ao, .int 0])), (am, .inl (cI, 4, .inl (zr mf 4))), (ap, .inl (cI, 128, .inl (zr pf 128))), (ag, .inl (cI, 4, .inl (zr gf 4))), (au, .inl (cI, 4, .inl (zr uf 4))), (ax, .inl (cI, 4, .inl (zr xf 4))), (al, .inl (cI, 4, .inl (rL4 lf (st - 5))))] := by
  refine kV_of (cc := cX3_anew) (nL := 2) (own := RX3) (lv := [(0, .ref mq)]) (by decide) rfl rfl (Nat.le_of_ble_eq_true rfl) rfl ?_
  intro p e s m args below meth c A ls Q C hA hK hP hD hS hl hret
  obtain ⟨hx, hb, hr, hml, hown, hts, hlocks⟩ := C
  have k_23 := hts (.fieldLink RX3 23 "BranchFiltersModel" "heldMany" "[I") (by decide +kernel)
  have k_26 := hts (.fieldLink RX3 26 "BranchFiltersModel" "past" "[I") (by decide +kernel)
  have k_29 := hts (.fieldLink RX3 29 "BranchFiltersModel" "given" "[I") (by decide +kernel)
  have k_32 := hts (.fieldLink RX3 32 "BranchFiltersModel" "put" "[I") (by decide +kernel)
  have k_35 := hts (.fieldLink RX3 35 "BranchFiltersModel" "mask" "[I") (by decide +kernel)
  have k_38 := hts (.fieldLink RX3 38 "BranchFiltersModel" "last" "[I") (by decide +kernel)
  have k_57 := hts (.fieldLink RX3 57 "BranchFiltersModel" "came" "I") (by decide +kernel)
  have k_60 := hts (.fieldLink RX3 60 "BranchFiltersModel" "isFinished" "Z") (by decide +kernel)
  have k_63 := hts (.fieldLink RX3 63 "BranchFiltersModel" "outMany" "I") (by decide +kernel)
  have k_66 := hts (.fieldLink RX3 66 "BranchFiltersModel" "start" "I") (by decide +kernel)
  have inX3 : ∀ w ∈ wsX30, w ∈ wsX3_anew := by decide +kernel
  refine lv_aload_n hx hb dX3_anew_0 rfl (lv_at hl 0 rfl) ?_
  refine lv_iconst (v := 0) hx hb dX3_anew_1 (by decide) ?_
  refine kPut (D := D) (ci := 3) (v := .int 0) (ty := .int) (C := RX3) (T := TX3) (N := 20) (ws' := [(mq, .inr (3, [.int fa, .ref ak, .ref ad, .int st, .int en, .int 0, .int fi, .ref ah, .ref am, .ref ap, .ref ag, .ref au, .ref ax, .ref al, .ref ai, .int im, .ref an, .int nm, .ref ao, .int om])), (am, .inl (cI, 4, .inl mf)), (ap, .inl (cI, 128, .inl pf)), (ag, .inl (cI, 4, .inl gf)), (au, .inl (cI, 4, .inl uf)), (ax, .inl (cI, 4, .inl xf)), (al, .inl (cI, 4, .inl lf))]) hx hb hts inX3 tyX3 tyX3_ok nmX3 hown hK hP hD hS 0 rfl rfl 5 (by decide) k_57 rfl (by decide +kernel) (rfl) (by first | rfl | decide) (Nat.le_of_ble_eq_true rfl) rfl dX3_anew_2 (fun H locs hP hD hS => ?_)
  refine lv_aload_n hx hb dX3_anew_5 rfl (lv_at hl 0 rfl) ?_
  refine lv_iconst (v := 0) hx hb dX3_anew_6 (by decide) ?_
  refine kPut (D := D) (ci := 3) (v := .int 0) (ty := .boolean) (C := RX3) (T := TX3) (N := 20) (ws' := [(mq, .inr (3, [.int fa, .ref ak, .ref ad, .int st, .int en, .int 0, .int 0, .ref ah, .ref am, .ref ap, .ref ag, .ref au, .ref ax, .ref al, .ref ai, .int im, .ref an, .int nm, .ref ao, .int om])), (am, .inl (cI, 4, .inl mf)), (ap, .inl (cI, 128, .inl pf)), (ag, .inl (cI, 4, .inl gf)), (au, .inl (cI, 4, .inl uf)), (ax, .inl (cI, 4, .inl xf)), (al, .inl (cI, 4, .inl lf))]) hx hb hts inX3 tyX3 tyX3_ok nmX3 hown hK hP hD hS 0 rfl rfl 6 (by decide) k_60 rfl (by decide +kernel) (by first | rfl | decide) (by first | rfl | decide) (Nat.le_of_ble_eq_true rfl) rfl dX3_anew_7 (fun H locs hP hD hS => ?_)
  refine lv_aload_n hx hb dX3_anew_10 rfl (lv_at hl 0 rfl) ?_
  refine lv_iconst (v := 0) hx hb dX3_anew_11 (by decide) ?_
  refine kPut (D := D) (ci := 3) (v := .int 0) (ty := .int) (C := RX3) (T := TX3) (N := 20) (ws' := [(mq, .inr (3, [.int fa, .ref ak, .ref ad, .int st, .int en, .int 0, .int 0, .ref ah, .ref am, .ref ap, .ref ag, .ref au, .ref ax, .ref al, .ref ai, .int im, .ref an, .int nm, .ref ao, .int 0])), (am, .inl (cI, 4, .inl mf)), (ap, .inl (cI, 128, .inl pf)), (ag, .inl (cI, 4, .inl gf)), (au, .inl (cI, 4, .inl uf)), (ax, .inl (cI, 4, .inl xf)), (al, .inl (cI, 4, .inl lf))]) hx hb hts inX3 tyX3 tyX3_ok nmX3 hown hK hP hD hS 0 rfl rfl 19 (by decide) k_63 rfl (by decide +kernel) (rfl) (by first | rfl | decide) (Nat.le_of_ble_eq_true rfl) rfl dX3_anew_12 (fun H locs hP hD hS => ?_)
  refine lv_iconst (v := 0) hx hb dX3_anew_15 (by decide) ?_
  refine lv_istore_n (lv' := [(1, .int 0), (0, .ref mq)]) hx hb dX3_anew_16 rfl hl (by decide) rfl (fun ls hl => ?_)
  refine lv_iload_n hx hb dX3_anew_17 rfl (lv_at hl 0 rfl) ?_
  refine lv_iconst (v := 4) hx hb dX3_anew_18 (by decide) ?_
  refine lv_icmp_ge (tgt := 68) hx hb dX3_anew_19 (by decide) (fun c_1 => ?_) (fun c_1 => ?_)
  · exact absurd c_1 (by decide)
  · refine lv_aload_n hx hb dX3_anew_22 rfl (lv_at hl 1 rfl) ?_
    refine va_get (D := D) (ci := 3) (v := .ref am) (C := RX3) (T := TX3) (N := 20) hx hb hts inX3 hown hK hP 0 rfl rfl 8 (by decide) k_23 (fun _ h9 => h9) rfl dX3_anew_23 ?_
    refine lv_iload_n hx hb dX3_anew_26 rfl (lv_at hl 0 rfl) ?_
    refine lv_iconst (v := 0) hx hb dX3_anew_27 (by decide) ?_
    refine kIast (k := 0) (ws' := [(mq, .inr (3, [.int fa, .ref ak, .ref ad, .int st, .int en, .int 0, .int 0, .ref ah, .ref am, .ref ap, .ref ag, .ref au, .ref ax, .ref al, .ref ai, .int im, .ref an, .int nm, .ref ao, .int 0])), (am, .inl (cI, 4, .inl (upd mf 0 0))), (ap, .inl (cI, 128, .inl pf)), (ag, .inl (cI, 4, .inl gf)), (au, .inl (cI, 4, .inl uf)), (ax, .inl (cI, 4, .inl xf)), (al, .inl (cI, 4, .inl lf))]) hx hb hK hP hD hS 1 0 rfl rfl (rfl) (by omega) (by omega) rfl dX3_anew_28 (fun H locs hP hD hS => ?_)
    refine lv_aload_n hx hb dX3_anew_29 rfl (lv_at hl 1 rfl) ?_
    refine va_get (D := D) (ci := 3) (v := .ref ag) (C := RX3) (T := TX3) (N := 20) hx hb hts inX3 hown hK hP 0 rfl rfl 10 (by decide) k_29 (fun _ h9 => h9) rfl dX3_anew_30 ?_
    refine lv_iload_n hx hb dX3_anew_33 rfl (lv_at hl 0 rfl) ?_
    refine lv_iconst (v := 0) hx hb dX3_anew_34 (by decide) ?_
    refine kIast (k := 0) (ws' := [(mq, .inr (3, [.int fa, .ref ak, .ref ad, .int st, .int en, .int 0, .int 0, .ref ah, .ref am, .ref ap, .ref ag, .ref au, .ref ax, .ref al, .ref ai, .int im, .ref an, .int nm, .ref ao, .int 0])), (am, .inl (cI, 4, .inl (upd mf 0 0))), (ap, .inl (cI, 128, .inl pf)), (ag, .inl (cI, 4, .inl (upd gf 0 0))), (au, .inl (cI, 4, .inl uf)), (ax, .inl (cI, 4, .inl xf)), (al, .inl (cI, 4, .inl lf))]) hx hb hK hP hD hS 3 0 rfl rfl (rfl) (by omega) (by omega) rfl dX3_anew_35 (fun H locs hP hD hS => ?_)
    refine lv_aload_n hx hb dX3_anew_36 rfl (lv_at hl 1 rfl) ?_
    refine va_get (D := D) (ci := 3) (v := .ref au) (C := RX3) (T := TX3) (N := 20) hx hb hts inX3 hown hK hP 0 rfl rfl 11 (by decide) k_32 (fun _ h9 => h9) rfl dX3_anew_37 ?_
    refine lv_iload_n hx hb dX3_anew_40 rfl (lv_at hl 0 rfl) ?_
    refine lv_iconst (v := 0) hx hb dX3_anew_41 (by decide) ?_
    refine kIast (k := 0) (ws' := [(mq, .inr (3, [.int fa, .ref ak, .ref ad, .int st, .int en, .int 0, .int 0, .ref ah, .ref am, .ref ap, .ref ag, .ref au, .ref ax, .ref al, .ref ai, .int im, .ref an, .int nm, .ref ao, .int 0])), (am, .inl (cI, 4, .inl (upd mf 0 0))), (ap, .inl (cI, 128, .inl pf)), (ag, .inl (cI, 4, .inl (upd gf 0 0))), (au, .inl (cI, 4, .inl (upd uf 0 0))), (ax, .inl (cI, 4, .inl xf)), (al, .inl (cI, 4, .inl lf))]) hx hb hK hP hD hS 4 0 rfl rfl (rfl) (by omega) (by omega) rfl dX3_anew_42 (fun H locs hP hD hS => ?_)
    refine lv_aload_n hx hb dX3_anew_43 rfl (lv_at hl 1 rfl) ?_
    refine va_get (D := D) (ci := 3) (v := .ref ax) (C := RX3) (T := TX3) (N := 20) hx hb hts inX3 hown hK hP 0 rfl rfl 12 (by decide) k_35 (fun _ h9 => h9) rfl dX3_anew_44 ?_
    refine lv_iload_n hx hb dX3_anew_47 rfl (lv_at hl 0 rfl) ?_
    refine lv_iconst (v := 0) hx hb dX3_anew_48 (by decide) ?_
    refine kIast (k := 0) (ws' := [(mq, .inr (3, [.int fa, .ref ak, .ref ad, .int st, .int en, .int 0, .int 0, .ref ah, .ref am, .ref ap, .ref ag, .ref au, .ref ax, .ref al, .ref ai, .int im, .ref an, .int nm, .ref ao, .int 0])), (am, .inl (cI, 4, .inl (upd mf 0 0))), (ap, .inl (cI, 128, .inl pf)), (ag, .inl (cI, 4, .inl (upd gf 0 0))), (au, .inl (cI, 4, .inl (upd uf 0 0))), (ax, .inl (cI, 4, .inl (upd xf 0 0))), (al, .inl (cI, 4, .inl lf))]) hx hb hK hP hD hS 5 0 rfl rfl (rfl) (by omega) (by omega) rfl dX3_anew_49 (fun H locs hP hD hS => ?_)
    refine lv_aload_n hx hb dX3_anew_50 rfl (lv_at hl 1 rfl) ?_
    refine va_get (D := D) (ci := 3) (v := .ref al) (C := RX3) (T := TX3) (N := 20) hx hb hts inX3 hown hK hP 0 rfl rfl 13 (by decide) k_38 (fun _ h9 => h9) rfl dX3_anew_51 ?_
    refine lv_iload_n hx hb dX3_anew_54 rfl (lv_at hl 0 rfl) ?_
    refine lv_aload_n hx hb dX3_anew_55 rfl (lv_at hl 1 rfl) ?_
    refine va_get (D := D) (ci := 3) (v := .int st) (C := RX3) (T := TX3) (N := 20) hx hb hts inX3 hown hK hP 0 rfl rfl 3 (by decide) k_66 (fun _ h9 => h9) rfl dX3_anew_56 ?_
    refine lv_iconst (v := 5) hx hb dX3_anew_59 (by decide) ?_
    refine lv_isub hx hb dX3_anew_60 ?_
    refine kIast (k := 0) (ws' := [(mq, .inr (3, [.int fa, .ref ak, .ref ad, .int st, .int en, .int 0, .int 0, .ref ah, .ref am, .ref ap, .ref ag, .ref au, .ref ax, .ref al, .ref ai, .int im, .ref an, .int nm, .ref ao, .int 0])), (am, .inl (cI, 4, .inl (upd mf 0 0))), (ap, .inl (cI, 128, .inl pf)), (ag, .inl (cI, 4, .inl (upd gf 0 0))), (au, .inl (cI, 4, .inl (upd uf 0 0))), (ax, .inl (cI, 4, .inl (upd xf 0 0))), (al, .inl (cI, 4, .inl (upd lf 0 (st - 5))))]) hx hb hK hP hD hS 6 0 rfl rfl (rfl) (by omega) (by omega) rfl dX3_anew_61 (fun H locs hP hD hS => ?_)
    refine lv_iinc (v := 1) (lv' := [(1, .int 1), (0, .ref mq)]) hx hb dX3_anew_62 hl (k := 0) rfl (by decide) (by decide) rfl (fun ls hl => ?_)
    refine lv_goto (tgt := 17) hx hb dX3_anew_65 (by decide) ?_
    refine lv_iload_n hx hb dX3_anew_17 rfl (lv_at hl 0 rfl) ?_
    refine lv_iconst (v := 4) hx hb dX3_anew_18 (by decide) ?_
    refine lv_icmp_ge (tgt := 68) hx hb dX3_anew_19 (by decide) (fun c_2 => ?_) (fun c_2 => ?_)
    · exact absurd c_2 (by decide)
    · refine lv_aload_n hx hb dX3_anew_22 rfl (lv_at hl 1 rfl) ?_
      refine va_get (D := D) (ci := 3) (v := .ref am) (C := RX3) (T := TX3) (N := 20) hx hb hts inX3 hown hK hP 0 rfl rfl 8 (by decide) k_23 (fun _ h9 => h9) rfl dX3_anew_23 ?_
      refine lv_iload_n hx hb dX3_anew_26 rfl (lv_at hl 0 rfl) ?_
      refine lv_iconst (v := 0) hx hb dX3_anew_27 (by decide) ?_
      refine kIast (k := 1) (ws' := [(mq, .inr (3, [.int fa, .ref ak, .ref ad, .int st, .int en, .int 0, .int 0, .ref ah, .ref am, .ref ap, .ref ag, .ref au, .ref ax, .ref al, .ref ai, .int im, .ref an, .int nm, .ref ao, .int 0])), (am, .inl (cI, 4, .inl (upd (upd mf 0 0) 1 0))), (ap, .inl (cI, 128, .inl pf)), (ag, .inl (cI, 4, .inl (upd gf 0 0))), (au, .inl (cI, 4, .inl (upd uf 0 0))), (ax, .inl (cI, 4, .inl (upd xf 0 0))), (al, .inl (cI, 4, .inl (upd lf 0 (st - 5))))]) hx hb hK hP hD hS 1 0 rfl rfl (rfl) (by omega) (by omega) rfl dX3_anew_28 (fun H locs hP hD hS => ?_)
      refine lv_aload_n hx hb dX3_anew_29 rfl (lv_at hl 1 rfl) ?_
      refine va_get (D := D) (ci := 3) (v := .ref ag) (C := RX3) (T := TX3) (N := 20) hx hb hts inX3 hown hK hP 0 rfl rfl 10 (by decide) k_29 (fun _ h9 => h9) rfl dX3_anew_30 ?_
      refine lv_iload_n hx hb dX3_anew_33 rfl (lv_at hl 0 rfl) ?_
      refine lv_iconst (v := 0) hx hb dX3_anew_34 (by decide) ?_
      refine kIast (k := 1) (ws' := [(mq, .inr (3, [.int fa, .ref ak, .ref ad, .int st, .int en, .int 0, .int 0, .ref ah, .ref am, .ref ap, .ref ag, .ref au, .ref ax, .ref al, .ref ai, .int im, .ref an, .int nm, .ref ao, .int 0])), (am, .inl (cI, 4, .inl (upd (upd mf 0 0) 1 0))), (ap, .inl (cI, 128, .inl pf)), (ag, .inl (cI, 4, .inl (upd (upd gf 0 0) 1 0))), (au, .inl (cI, 4, .inl (upd uf 0 0))), (ax, .inl (cI, 4, .inl (upd xf 0 0))), (al, .inl (cI, 4, .inl (upd lf 0 (st - 5))))]) hx hb hK hP hD hS 3 0 rfl rfl (rfl) (by omega) (by omega) rfl dX3_anew_35 (fun H locs hP hD hS => ?_)
      refine lv_aload_n hx hb dX3_anew_36 rfl (lv_at hl 1 rfl) ?_
      refine va_get (D := D) (ci := 3) (v := .ref au) (C := RX3) (T := TX3) (N := 20) hx hb hts inX3 hown hK hP 0 rfl rfl 11 (by decide) k_32 (fun _ h9 => h9) rfl dX3_anew_37 ?_
      refine lv_iload_n hx hb dX3_anew_40 rfl (lv_at hl 0 rfl) ?_
      refine lv_iconst (v := 0) hx hb dX3_anew_41 (by decide) ?_
      refine kIast (k := 1) (ws' := [(mq, .inr (3, [.int fa, .ref ak, .ref ad, .int st, .int en, .int 0, .int 0, .ref ah, .ref am, .ref ap, .ref ag, .ref au, .ref ax, .ref al, .ref ai, .int im, .ref an, .int nm, .ref ao, .int 0])), (am, .inl (cI, 4, .inl (upd (upd mf 0 0) 1 0))), (ap, .inl (cI, 128, .inl pf)), (ag, .inl (cI, 4, .inl (upd (upd gf 0 0) 1 0))), (au, .inl (cI, 4, .inl (upd (upd uf 0 0) 1 0))), (ax, .inl (cI, 4, .inl (upd xf 0 0))), (al, .inl (cI, 4, .inl (upd lf 0 (st - 5))))]) hx hb hK hP hD hS 4 0 rfl rfl (rfl) (by omega) (by omega) rfl dX3_anew_42 (fun H locs hP hD hS => ?_)
      refine lv_aload_n hx hb dX3_anew_43 rfl (lv_at hl 1 rfl) ?_
      refine va_get (D := D) (ci := 3) (v := .ref ax) (C := RX3) (T := TX3) (N := 20) hx hb hts inX3 hown hK hP 0 rfl rfl 12 (by decide) k_35 (fun _ h9 => h9) rfl dX3_anew_44 ?_
      refine lv_iload_n hx hb dX3_anew_47 rfl (lv_at hl 0 rfl) ?_
      refine lv_iconst (v := 0) hx hb dX3_anew_48 (by decide) ?_
      refine kIast (k := 1) (ws' := [(mq, .inr (3, [.int fa, .ref ak, .ref ad, .int st, .int en, .int 0, .int 0, .ref ah, .ref am, .ref ap, .ref ag, .ref au, .ref ax, .ref al, .ref ai, .int im, .ref an, .int nm, .ref ao, .int 0])), (am, .inl (cI, 4, .inl (upd (upd mf 0 0) 1 0))), (ap, .inl (cI, 128, .inl pf)), (ag, .inl (cI, 4, .inl (upd (upd gf 0 0) 1 0))), (au, .inl (cI, 4, .inl (upd (upd uf 0 0) 1 0))), (ax, .inl (cI, 4, .inl (upd (upd xf 0 0) 1 0))), (al, .inl (cI, 4, .inl (upd lf 0 (st - 5))))]) hx hb hK hP hD hS 5 0 rfl rfl (rfl) (by omega) (by omega) rfl dX3_anew_49 (fun H locs hP hD hS => ?_)
      refine lv_aload_n hx hb dX3_anew_50 rfl (lv_at hl 1 rfl) ?_
      refine va_get (D := D) (ci := 3) (v := .ref al) (C := RX3) (T := TX3) (N := 20) hx hb hts inX3 hown hK hP 0 rfl rfl 13 (by decide) k_38 (fun _ h9 => h9) rfl dX3_anew_51 ?_
      refine lv_iload_n hx hb dX3_anew_54 rfl (lv_at hl 0 rfl) ?_
      refine lv_aload_n hx hb dX3_anew_55 rfl (lv_at hl 1 rfl) ?_
      refine va_get (D := D) (ci := 3) (v := .int st) (C := RX3) (T := TX3) (N := 20) hx hb hts inX3 hown hK hP 0 rfl rfl 3 (by decide) k_66 (fun _ h9 => h9) rfl dX3_anew_56 ?_
      refine lv_iconst (v := 5) hx hb dX3_anew_59 (by decide) ?_
      refine lv_isub hx hb dX3_anew_60 ?_
      refine kIast (k := 1) (ws' := [(mq, .inr (3, [.int fa, .ref ak, .ref ad, .int st, .int en, .int 0, .int 0, .ref ah, .ref am, .ref ap, .ref ag, .ref au, .ref ax, .ref al, .ref ai, .int im, .ref an, .int nm, .ref ao, .int 0])), (am, .inl (cI, 4, .inl (upd (upd mf 0 0) 1 0))), (ap, .inl (cI, 128, .inl pf)), (ag, .inl (cI, 4, .inl (upd (upd gf 0 0) 1 0))), (au, .inl (cI, 4, .inl (upd (upd uf 0 0) 1 0))), (ax, .inl (cI, 4, .inl (upd (upd xf 0 0) 1 0))), (al, .inl (cI, 4, .inl (upd (upd lf 0 (st - 5)) 1 (st - 5))))]) hx hb hK hP hD hS 6 0 rfl rfl (rfl) (by omega) (by omega) rfl dX3_anew_61 (fun H locs hP hD hS => ?_)
      refine lv_iinc (v := 2) (lv' := [(1, .int 2), (0, .ref mq)]) hx hb dX3_anew_62 hl (k := 0) rfl (by decide) (by decide) rfl (fun ls hl => ?_)
      refine lv_goto (tgt := 17) hx hb dX3_anew_65 (by decide) ?_
      refine lv_iload_n hx hb dX3_anew_17 rfl (lv_at hl 0 rfl) ?_
      refine lv_iconst (v := 4) hx hb dX3_anew_18 (by decide) ?_
      refine lv_icmp_ge (tgt := 68) hx hb dX3_anew_19 (by decide) (fun c_3 => ?_) (fun c_3 => ?_)
      · exact absurd c_3 (by decide)
      · refine lv_aload_n hx hb dX3_anew_22 rfl (lv_at hl 1 rfl) ?_
        refine va_get (D := D) (ci := 3) (v := .ref am) (C := RX3) (T := TX3) (N := 20) hx hb hts inX3 hown hK hP 0 rfl rfl 8 (by decide) k_23 (fun _ h9 => h9) rfl dX3_anew_23 ?_
        refine lv_iload_n hx hb dX3_anew_26 rfl (lv_at hl 0 rfl) ?_
        refine lv_iconst (v := 0) hx hb dX3_anew_27 (by decide) ?_
        refine kIast (k := 2) (ws' := [(mq, .inr (3, [.int fa, .ref ak, .ref ad, .int st, .int en, .int 0, .int 0, .ref ah, .ref am, .ref ap, .ref ag, .ref au, .ref ax, .ref al, .ref ai, .int im, .ref an, .int nm, .ref ao, .int 0])), (am, .inl (cI, 4, .inl (upd (upd (upd mf 0 0) 1 0) 2 0))), (ap, .inl (cI, 128, .inl pf)), (ag, .inl (cI, 4, .inl (upd (upd gf 0 0) 1 0))), (au, .inl (cI, 4, .inl (upd (upd uf 0 0) 1 0))), (ax, .inl (cI, 4, .inl (upd (upd xf 0 0) 1 0))), (al, .inl (cI, 4, .inl (upd (upd lf 0 (st - 5)) 1 (st - 5))))]) hx hb hK hP hD hS 1 0 rfl rfl (rfl) (by omega) (by omega) rfl dX3_anew_28 (fun H locs hP hD hS => ?_)
        refine lv_aload_n hx hb dX3_anew_29 rfl (lv_at hl 1 rfl) ?_
        refine va_get (D := D) (ci := 3) (v := .ref ag) (C := RX3) (T := TX3) (N := 20) hx hb hts inX3 hown hK hP 0 rfl rfl 10 (by decide) k_29 (fun _ h9 => h9) rfl dX3_anew_30 ?_
        refine lv_iload_n hx hb dX3_anew_33 rfl (lv_at hl 0 rfl) ?_
        refine lv_iconst (v := 0) hx hb dX3_anew_34 (by decide) ?_
        refine kIast (k := 2) (ws' := [(mq, .inr (3, [.int fa, .ref ak, .ref ad, .int st, .int en, .int 0, .int 0, .ref ah, .ref am, .ref ap, .ref ag, .ref au, .ref ax, .ref al, .ref ai, .int im, .ref an, .int nm, .ref ao, .int 0])), (am, .inl (cI, 4, .inl (upd (upd (upd mf 0 0) 1 0) 2 0))), (ap, .inl (cI, 128, .inl pf)), (ag, .inl (cI, 4, .inl (upd (upd (upd gf 0 0) 1 0) 2 0))), (au, .inl (cI, 4, .inl (upd (upd uf 0 0) 1 0))), (ax, .inl (cI, 4, .inl (upd (upd xf 0 0) 1 0))), (al, .inl (cI, 4, .inl (upd (upd lf 0 (st - 5)) 1 (st - 5))))]) hx hb hK hP hD hS 3 0 rfl rfl (rfl) (by omega) (by omega) rfl dX3_anew_35 (fun H locs hP hD hS => ?_)
        refine lv_aload_n hx hb dX3_anew_36 rfl (lv_at hl 1 rfl) ?_
        refine va_get (D := D) (ci := 3) (v := .ref au) (C := RX3) (T := TX3) (N := 20) hx hb hts inX3 hown hK hP 0 rfl rfl 11 (by decide) k_32 (fun _ h9 => h9) rfl dX3_anew_37 ?_
        refine lv_iload_n hx hb dX3_anew_40 rfl (lv_at hl 0 rfl) ?_
        refine lv_iconst (v := 0) hx hb dX3_anew_41 (by decide) ?_
        refine kIast (k := 2) (ws' := [(mq, .inr (3, [.int fa, .ref ak, .ref ad, .int st, .int en, .int 0, .int 0, .ref ah, .ref am, .ref ap, .ref ag, .ref au, .ref ax, .ref al, .ref ai, .int im, .ref an, .int nm, .ref ao, .int 0])), (am, .inl (cI, 4, .inl (upd (upd (upd mf 0 0) 1 0) 2 0))), (ap, .inl (cI, 128, .inl pf)), (ag, .inl (cI, 4, .inl (upd (upd (upd gf 0 0) 1 0) 2 0))), (au, .inl (cI, 4, .inl (upd (upd (upd uf 0 0) 1 0) 2 0))), (ax, .inl (cI, 4, .inl (upd (upd xf 0 0) 1 0))), (al, .inl (cI, 4, .inl (upd (upd lf 0 (st - 5)) 1 (st - 5))))]) hx hb hK hP hD hS 4 0 rfl rfl (rfl) (by omega) (by omega) rfl dX3_anew_42 (fun H locs hP hD hS => ?_)
        refine lv_aload_n hx hb dX3_anew_43 rfl (lv_at hl 1 rfl) ?_
        refine va_get (D := D) (ci := 3) (v := .ref ax) (C := RX3) (T := TX3) (N := 20) hx hb hts inX3 hown hK hP 0 rfl rfl 12 (by decide) k_35 (fun _ h9 => h9) rfl dX3_anew_44 ?_
        refine lv_iload_n hx hb dX3_anew_47 rfl (lv_at hl 0 rfl) ?_
        refine lv_iconst (v := 0) hx hb dX3_anew_48 (by decide) ?_
        refine kIast (k := 2) (ws' := [(mq, .inr (3, [.int fa, .ref ak, .ref ad, .int st, .int en, .int 0, .int 0, .ref ah, .ref am, .ref ap, .ref ag, .ref au, .ref ax, .ref al, .ref ai, .int im, .ref an, .int nm, .ref ao, .int 0])), (am, .inl (cI, 4, .inl (upd (upd (upd mf 0 0) 1 0) 2 0))), (ap, .inl (cI, 128, .inl pf)), (ag, .inl (cI, 4, .inl (upd (upd (upd gf 0 0) 1 0) 2 0))), (au, .inl (cI, 4, .inl (upd (upd (upd uf 0 0) 1 0) 2 0))), (ax, .inl (cI, 4, .inl (upd (upd (upd xf 0 0) 1 0) 2 0))), (al, .inl (cI, 4, .inl (upd (upd lf 0 (st - 5)) 1 (st - 5))))]) hx hb hK hP hD hS 5 0 rfl rfl (rfl) (by omega) (by omega) rfl dX3_anew_49 (fun H locs hP hD hS => ?_)
        refine lv_aload_n hx hb dX3_anew_50 rfl (lv_at hl 1 rfl) ?_
        refine va_get (D := D) (ci := 3) (v := .ref al) (C := RX3) (T := TX3) (N := 20) hx hb hts inX3 hown hK hP 0 rfl rfl 13 (by decide) k_38 (fun _ h9 => h9) rfl dX3_anew_51 ?_
        refine lv_iload_n hx hb dX3_anew_54 rfl (lv_at hl 0 rfl) ?_
        refine lv_aload_n hx hb dX3_anew_55 rfl (lv_at hl 1 rfl) ?_
        refine va_get (D := D) (ci := 3) (v := .int st) (C := RX3) (T := TX3) (N := 20) hx hb hts inX3 hown hK hP 0 rfl rfl 3 (by decide) k_66 (fun _ h9 => h9) rfl dX3_anew_56 ?_
        refine lv_iconst (v := 5) hx hb dX3_anew_59 (by decide) ?_
        refine lv_isub hx hb dX3_anew_60 ?_
        refine kIast (k := 2) (ws' := [(mq, .inr (3, [.int fa, .ref ak, .ref ad, .int st, .int en, .int 0, .int 0, .ref ah, .ref am, .ref ap, .ref ag, .ref au, .ref ax, .ref al, .ref ai, .int im, .ref an, .int nm, .ref ao, .int 0])), (am, .inl (cI, 4, .inl (upd (upd (upd mf 0 0) 1 0) 2 0))), (ap, .inl (cI, 128, .inl pf)), (ag, .inl (cI, 4, .inl (upd (upd (upd gf 0 0) 1 0) 2 0))), (au, .inl (cI, 4, .inl (upd (upd (upd uf 0 0) 1 0) 2 0))), (ax, .inl (cI, 4, .inl (upd (upd (upd xf 0 0) 1 0) 2 0))), (al, .inl (cI, 4, .inl (upd (upd (upd lf 0 (st - 5)) 1 (st - 5)) 2 (st - 5))))]) hx hb hK hP hD hS 6 0 rfl rfl (rfl) (by omega) (by omega) rfl dX3_anew_61 (fun H locs hP hD hS => ?_)
        refine lv_iinc (v := 3) (lv' := [(1, .int 3), (0, .ref mq)]) hx hb dX3_anew_62 hl (k := 0) rfl (by decide) (by decide) rfl (fun ls hl => ?_)
        refine lv_goto (tgt := 17) hx hb dX3_anew_65 (by decide) ?_
        refine lv_iload_n hx hb dX3_anew_17 rfl (lv_at hl 0 rfl) ?_
        refine lv_iconst (v := 4) hx hb dX3_anew_18 (by decide) ?_
        refine lv_icmp_ge (tgt := 68) hx hb dX3_anew_19 (by decide) (fun c_4 => ?_) (fun c_4 => ?_)
        · exact absurd c_4 (by decide)
        · refine lv_aload_n hx hb dX3_anew_22 rfl (lv_at hl 1 rfl) ?_
          refine va_get (D := D) (ci := 3) (v := .ref am) (C := RX3) (T := TX3) (N := 20) hx hb hts inX3 hown hK hP 0 rfl rfl 8 (by decide) k_23 (fun _ h9 => h9) rfl dX3_anew_23 ?_
          refine lv_iload_n hx hb dX3_anew_26 rfl (lv_at hl 0 rfl) ?_
          refine lv_iconst (v := 0) hx hb dX3_anew_27 (by decide) ?_
          refine kIast (k := 3) (ws' := [(mq, .inr (3, [.int fa, .ref ak, .ref ad, .int st, .int en, .int 0, .int 0, .ref ah, .ref am, .ref ap, .ref ag, .ref au, .ref ax, .ref al, .ref ai, .int im, .ref an, .int nm, .ref ao, .int 0])), (am, .inl (cI, 4, .inl (upd (upd (upd (upd mf 0 0) 1 0) 2 0) 3 0))), (ap, .inl (cI, 128, .inl pf)), (ag, .inl (cI, 4, .inl (upd (upd (upd gf 0 0) 1 0) 2 0))), (au, .inl (cI, 4, .inl (upd (upd (upd uf 0 0) 1 0) 2 0))), (ax, .inl (cI, 4, .inl (upd (upd (upd xf 0 0) 1 0) 2 0))), (al, .inl (cI, 4, .inl (upd (upd (upd lf 0 (st - 5)) 1 (st - 5)) 2 (st - 5))))]) hx hb hK hP hD hS 1 0 rfl rfl (rfl) (by omega) (by omega) rfl dX3_anew_28 (fun H locs hP hD hS => ?_)
          refine lv_aload_n hx hb dX3_anew_29 rfl (lv_at hl 1 rfl) ?_
          refine va_get (D := D) (ci := 3) (v := .ref ag) (C := RX3) (T := TX3) (N := 20) hx hb hts inX3 hown hK hP 0 rfl rfl 10 (by decide) k_29 (fun _ h9 => h9) rfl dX3_anew_30 ?_
          refine lv_iload_n hx hb dX3_anew_33 rfl (lv_at hl 0 rfl) ?_
          refine lv_iconst (v := 0) hx hb dX3_anew_34 (by decide) ?_
          refine kIast (k := 3) (ws' := [(mq, .inr (3, [.int fa, .ref ak, .ref ad, .int st, .int en, .int 0, .int 0, .ref ah, .ref am, .ref ap, .ref ag, .ref au, .ref ax, .ref al, .ref ai, .int im, .ref an, .int nm, .ref ao, .int 0])), (am, .inl (cI, 4, .inl (upd (upd (upd (upd mf 0 0) 1 0) 2 0) 3 0))), (ap, .inl (cI, 128, .inl pf)), (ag, .inl (cI, 4, .inl (upd (upd (upd (upd gf 0 0) 1 0) 2 0) 3 0))), (au, .inl (cI, 4, .inl (upd (upd (upd uf 0 0) 1 0) 2 0))), (ax, .inl (cI, 4, .inl (upd (upd (upd xf 0 0) 1 0) 2 0))), (al, .inl (cI, 4, .inl (upd (upd (upd lf 0 (st - 5)) 1 (st - 5)) 2 (st - 5))))]) hx hb hK hP hD hS 3 0 rfl rfl (rfl) (by omega) (by omega) rfl dX3_anew_35 (fun H locs hP hD hS => ?_)
          refine lv_aload_n hx hb dX3_anew_36 rfl (lv_at hl 1 rfl) ?_
          refine va_get (D := D) (ci := 3) (v := .ref au) (C := RX3) (T := TX3) (N := 20) hx hb hts inX3 hown hK hP 0 rfl rfl 11 (by decide) k_32 (fun _ h9 => h9) rfl dX3_anew_37 ?_
          refine lv_iload_n hx hb dX3_anew_40 rfl (lv_at hl 0 rfl) ?_
          refine lv_iconst (v := 0) hx hb dX3_anew_41 (by decide) ?_
          refine kIast (k := 3) (ws' := [(mq, .inr (3, [.int fa, .ref ak, .ref ad, .int st, .int en, .int 0, .int 0, .ref ah, .ref am, .ref ap, .ref ag, .ref au, .ref ax, .ref al, .ref ai, .int im, .ref an, .int nm, .ref ao, .int 0])), (am, .inl (cI, 4, .inl (upd (upd (upd (upd mf 0 0) 1 0) 2 0) 3 0))), (ap, .inl (cI, 128, .inl pf)), (ag, .inl (cI, 4, .inl (upd (upd (upd (upd gf 0 0) 1 0) 2 0) 3 0))), (au, .inl (cI, 4, .inl (upd (upd (upd (upd uf 0 0) 1 0) 2 0) 3 0))), (ax, .inl (cI, 4, .inl (upd (upd (upd xf 0 0) 1 0) 2 0))), (al, .inl (cI, 4, .inl (upd (upd (upd lf 0 (st - 5)) 1 (st - 5)) 2 (st - 5))))]) hx hb hK hP hD hS 4 0 rfl rfl (rfl) (by omega) (by omega) rfl dX3_anew_42 (fun H locs hP hD hS => ?_)
          refine lv_aload_n hx hb dX3_anew_43 rfl (lv_at hl 1 rfl) ?_
          refine va_get (D := D) (ci := 3) (v := .ref ax) (C := RX3) (T := TX3) (N := 20) hx hb hts inX3 hown hK hP 0 rfl rfl 12 (by decide) k_35 (fun _ h9 => h9) rfl dX3_anew_44 ?_
          refine lv_iload_n hx hb dX3_anew_47 rfl (lv_at hl 0 rfl) ?_
          refine lv_iconst (v := 0) hx hb dX3_anew_48 (by decide) ?_
          refine kIast (k := 3) (ws' := [(mq, .inr (3, [.int fa, .ref ak, .ref ad, .int st, .int en, .int 0, .int 0, .ref ah, .ref am, .ref ap, .ref ag, .ref au, .ref ax, .ref al, .ref ai, .int im, .ref an, .int nm, .ref ao, .int 0])), (am, .inl (cI, 4, .inl (upd (upd (upd (upd mf 0 0) 1 0) 2 0) 3 0))), (ap, .inl (cI, 128, .inl pf)), (ag, .inl (cI, 4, .inl (upd (upd (upd (upd gf 0 0) 1 0) 2 0) 3 0))), (au, .inl (cI, 4, .inl (upd (upd (upd (upd uf 0 0) 1 0) 2 0) 3 0))), (ax, .inl (cI, 4, .inl (upd (upd (upd (upd xf 0 0) 1 0) 2 0) 3 0))), (al, .inl (cI, 4, .inl (upd (upd (upd lf 0 (st - 5)) 1 (st - 5)) 2 (st - 5))))]) hx hb hK hP hD hS 5 0 rfl rfl (rfl) (by omega) (by omega) rfl dX3_anew_49 (fun H locs hP hD hS => ?_)
          refine lv_aload_n hx hb dX3_anew_50 rfl (lv_at hl 1 rfl) ?_
          refine va_get (D := D) (ci := 3) (v := .ref al) (C := RX3) (T := TX3) (N := 20) hx hb hts inX3 hown hK hP 0 rfl rfl 13 (by decide) k_38 (fun _ h9 => h9) rfl dX3_anew_51 ?_
          refine lv_iload_n hx hb dX3_anew_54 rfl (lv_at hl 0 rfl) ?_
          refine lv_aload_n hx hb dX3_anew_55 rfl (lv_at hl 1 rfl) ?_
          refine va_get (D := D) (ci := 3) (v := .int st) (C := RX3) (T := TX3) (N := 20) hx hb hts inX3 hown hK hP 0 rfl rfl 3 (by decide) k_66 (fun _ h9 => h9) rfl dX3_anew_56 ?_
          refine lv_iconst (v := 5) hx hb dX3_anew_59 (by decide) ?_
          refine lv_isub hx hb dX3_anew_60 ?_
          refine kIast (k := 3) (ws' := [(mq, .inr (3, [.int fa, .ref ak, .ref ad, .int st, .int en, .int 0, .int 0, .ref ah, .ref am, .ref ap, .ref ag, .ref au, .ref ax, .ref al, .ref ai, .int im, .ref an, .int nm, .ref ao, .int 0])), (am, .inl (cI, 4, .inl (upd (upd (upd (upd mf 0 0) 1 0) 2 0) 3 0))), (ap, .inl (cI, 128, .inl pf)), (ag, .inl (cI, 4, .inl (upd (upd (upd (upd gf 0 0) 1 0) 2 0) 3 0))), (au, .inl (cI, 4, .inl (upd (upd (upd (upd uf 0 0) 1 0) 2 0) 3 0))), (ax, .inl (cI, 4, .inl (upd (upd (upd (upd xf 0 0) 1 0) 2 0) 3 0))), (al, .inl (cI, 4, .inl (upd (upd (upd (upd lf 0 (st - 5)) 1 (st - 5)) 2 (st - 5)) 3 (st - 5))))]) hx hb hK hP hD hS 6 0 rfl rfl (rfl) (by omega) (by omega) rfl dX3_anew_61 (fun H locs hP hD hS => ?_)
          refine lv_iinc (v := 4) (lv' := [(1, .int 4), (0, .ref mq)]) hx hb dX3_anew_62 hl (k := 0) rfl (by decide) (by decide) rfl (fun ls hl => ?_)
          refine lv_goto (tgt := 17) hx hb dX3_anew_65 (by decide) ?_
          refine lv_iload_n hx hb dX3_anew_17 rfl (lv_at hl 0 rfl) ?_
          refine lv_iconst (v := 4) hx hb dX3_anew_18 (by decide) ?_
          refine lv_icmp_ge (tgt := 68) hx hb dX3_anew_19 (by decide) (fun c_5 => ?_) (fun c_5 => ?_)
          · refine lv_iconst (v := 0) hx hb dX3_anew_68 (by decide) ?_
            refine lv_istore_n (lv' := [(1, .int 0), (0, .ref mq)]) hx hb dX3_anew_69 rfl hl (by decide) rfl (fun ls hl => ?_)
            have loop : ∀ (K : Nat) (j : Nat) (hj : j + K = 128) (H : Heap) (locs : List Loc) (ls : Array Slot), va_P D vwCl [(mq, .inr (3, [.int fa, .ref ak, .ref ad, .int st, .int en, .int 0, .int 0, .ref ah, .ref am, .ref ap, .ref ag, .ref au, .ref ax, .ref al, .ref ai, .int im, .ref an, .int nm, .ref ao, .int 0])), (am, .inl (cI, 4, .inl (upd (upd (upd (upd mf 0 0) 1 0) 2 0) 3 0))), (ap, .inl (cI, 128, .inl (zr pf j))), (ag, .inl (cI, 4, .inl (upd (upd (upd (upd gf 0 0) 1 0) 2 0) 3 0))), (au, .inl (cI, 4, .inl (upd (upd (upd (upd uf 0 0) 1 0) 2 0) 3 0))), (ax, .inl (cI, 4, .inl (upd (upd (upd (upd xf 0 0) 1 0) 2 0) 3 0))), (al, .inl (cI, 4, .inl (upd (upd (upd (upd lf 0 (st - 5)) 1 (st - 5)) 2 (st - 5)) 3 (st - 5))))] H → va_D A [(mq, .inr (3, [.int fa, .ref ak, .ref ad, .int st, .int en, .int 0, .int 0, .ref ah, .ref am, .ref ap, .ref ag, .ref au, .ref ax, .ref al, .ref ai, .int im, .ref an, .int nm, .ref ao, .int 0])), (am, .inl (cI, 4, .inl (upd (upd (upd (upd mf 0 0) 1 0) 2 0) 3 0))), (ap, .inl (cI, 128, .inl (zr pf j))), (ag, .inl (cI, 4, .inl (upd (upd (upd (upd gf 0 0) 1 0) 2 0) 3 0))), (au, .inl (cI, 4, .inl (upd (upd (upd (upd uf 0 0) 1 0) 2 0) 3 0))), (ax, .inl (cI, 4, .inl (upd (upd (upd (upd xf 0 0) 1 0) 2 0) 3 0))), (al, .inl (cI, 4, .inl (upd (upd (upd (upd lf 0 (st - 5)) 1 (st - 5)) 2 (st - 5)) 3 (st - 5))))] → va_S A s.heap H locs → lv_has ls 2 [(0, .ref mq), (1, .int (nI j))] → W p l e ({ frames := 0, cells := 0, slots := 0, locals := 0 }) s m args below meth c H locs 0 0 Q (kFr m 70 ls []) := by
              intro K
              induction K with
              | zero =>
                intro j hj H locs ls hP hD hS hl
                obtain rfl : j = 128 := by omega
                refine lv_iload_n hx hb dX3_anew_70 rfl (lv_at hl 1 rfl) ?_
                refine lv_sipush (v := 128) hx hb dX3_anew_71 (by decide) ?_
                refine lv_icmp_ge (tgt := 90) hx hb dX3_anew_74 (by decide) (fun c_6 => ?_) (fun c_6 => ?_)
                · exact hret _ _ _ _ dX3_anew_90 (hP) (hD) hS
                · exact absurd ((kLe (a := 128) (b := 128) rfl rfl (by omega) (by omega)).mpr (by omega)) c_6
              | succ K ih =>
                intro j hj H locs ls hP hD hS hl
                refine lv_iload_n hx hb dX3_anew_70 rfl (lv_at hl 1 rfl) ?_
                refine lv_sipush (v := 128) hx hb dX3_anew_71 (by decide) ?_
                refine lv_icmp_ge (tgt := 90) hx hb dX3_anew_74 (by decide) (fun c_7 => ?_) (fun c_7 => ?_)
                · exact absurd ((kLe (a := 128) (b := j) rfl rfl (by omega) (by omega)).mp c_7) (by omega)
                · refine lv_aload_n hx hb dX3_anew_77 rfl (lv_at hl 0 rfl) ?_
                  refine va_get (D := D) (ci := 3) (v := .ref ap) (C := RX3) (T := TX3) (N := 20) hx hb hts inX3 hown hK hP 0 rfl rfl 9 (by decide) k_26 (fun _ h9 => h9) rfl dX3_anew_78 ?_
                  refine lv_iload_n hx hb dX3_anew_81 rfl (lv_at hl 1 rfl) ?_
                  refine lv_iconst (v := 0) hx hb dX3_anew_82 (by decide) ?_
                  refine kIast (k := j) (ws' := [(mq, .inr (3, [.int fa, .ref ak, .ref ad, .int st, .int en, .int 0, .int 0, .ref ah, .ref am, .ref ap, .ref ag, .ref au, .ref ax, .ref al, .ref ai, .int im, .ref an, .int nm, .ref ao, .int 0])), (am, .inl (cI, 4, .inl (upd (upd (upd (upd mf 0 0) 1 0) 2 0) 3 0))), (ap, .inl (cI, 128, .inl (upd (zr pf j) j 0))), (ag, .inl (cI, 4, .inl (upd (upd (upd (upd gf 0 0) 1 0) 2 0) 3 0))), (au, .inl (cI, 4, .inl (upd (upd (upd (upd uf 0 0) 1 0) 2 0) 3 0))), (ax, .inl (cI, 4, .inl (upd (upd (upd (upd xf 0 0) 1 0) 2 0) 3 0))), (al, .inl (cI, 4, .inl (upd (upd (upd (upd lf 0 (st - 5)) 1 (st - 5)) 2 (st - 5)) 3 (st - 5))))]) hx hb hK hP hD hS 2 0 rfl rfl (rfl) (by omega) (by omega) rfl dX3_anew_83 (fun H locs hP hD hS => ?_)
                  refine lv_iinc (v := nI (j + 1)) (lv' := [(1, .int (nI (j + 1))), (0, .ref mq)]) hx hb dX3_anew_84 hl (k := 1) rfl (nI_1 _) (by decide) rfl (fun ls hl => ?_)
                  refine lv_goto (tgt := 70) hx hb dX3_anew_87 (by decide) ?_
                  exact ih (j + 1) (by omega) _ _ _ hP hD hS (lv_sub hl [1, 0] rfl)
            exact loop 128 0 (by omega) _ _ _ hP hD hS (lv_sub hl [1, 0] rfl)
          · exact absurd c_5 (by decide)

set_option maxHeartbeats 4000000 in
set_option maxRecDepth 100000 in
theorem c_X3_begin (l : Launch) (D : va_G) (cI cF cJ : ClassId) (mq ak ad ah am ap ag au ax al ai an ao : Nat) (fa st en cm fi im nm om : Int32) (mf pf gf uf xf lf : Nat → Int32) (s2 e2 : Int32) (hz : e2 = 0 ∨ e2 = 1) : kV l yX3_begin wsX3_begin ({ frames := 1, cells := 0, slots := 0, locals := 21 }) D (kTy cI cF cJ) [.ref mq, .int s2, .int e2] [(mq, .inr (3, [.int fa, .ref ak, .ref ad, .int st, .int en, .int cm, .int fi, .ref ah, .ref am, .ref ap, .ref ag, .ref au, .ref ax, .ref al, .ref ai, .int im, .ref an, .int nm, .ref ao, .int om])), (am, .inl (cI, 4, .inl mf)), (ap, .inl (cI, 128, .inl pf)), (ag, .inl (cI, 4, .inl gf)), (au, .inl (cI, 4, .inl uf)), (ax, .inl (cI, 4, .inl xf)), (al, .inl (cI, 4, .inl lf))] [(mq, .inr (3, [.int 0, .ref ak, .ref ad, .int s2, .int e2, .int 0, .int 0, .ref ah, .ref am, .ref ap, .ref ag, .ref au, .ref ax, .ref al, .ref ai, .int im, .ref an, .int nm, .ref ao, .int 0])), (am, .inl (cI, 4, .inl (zr mf 4))), (ap, .inl (cI, 128, .inl (zr pf 128))), (ag, .inl (cI, 4, .inl (zr gf 4))), (au, .inl (cI, 4, .inl (zr uf 4))), (ax, .inl (cI, 4, .inl (zr xf 4))), (al, .inl (cI, 4, .inl (rL4 lf (s2 - 5))))] := by
  refine kV_of (cc := cX3_begin) (nL := 3) (own := RX3) (lv := [(0, .ref mq), (1, .int s2), (2, .int e2)]) (by decide) rfl rfl (Nat.le_of_ble_eq_true rfl) rfl ?_
  intro p e s m args below meth c A ls Q C hA hK hP hD hS hl hret
  obtain ⟨hx, hb, hr, hml, hown, hts, hlocks⟩ := C
  have k_16 := hts (.fieldLink RX3 16 "BranchFiltersModel" "encoding" "Z") (by decide +kernel)
  have k_53 := hts (.fieldLink RX3 53 "BranchFiltersModel" "fault" "I") (by decide +kernel)
  have k_66 := hts (.fieldLink RX3 66 "BranchFiltersModel" "start" "I") (by decide +kernel)
  have inX3 : ∀ w ∈ wsX30, w ∈ wsX3_begin := by decide +kernel
  refine lv_aload_n hx hb dX3_begin_0 rfl (lv_at hl 0 rfl) ?_
  refine lv_iconst (v := 0) hx hb dX3_begin_1 (by decide) ?_
  refine kPut (D := D) (ci := 3) (v := .int 0) (ty := .int) (C := RX3) (T := TX3) (N := 20) (ws' := [(mq, .inr (3, [.int 0, .ref ak, .ref ad, .int st, .int en, .int cm, .int fi, .ref ah, .ref am, .ref ap, .ref ag, .ref au, .ref ax, .ref al, .ref ai, .int im, .ref an, .int nm, .ref ao, .int om])), (am, .inl (cI, 4, .inl mf)), (ap, .inl (cI, 128, .inl pf)), (ag, .inl (cI, 4, .inl gf)), (au, .inl (cI, 4, .inl uf)), (ax, .inl (cI, 4, .inl xf)), (al, .inl (cI, 4, .inl lf))]) hx hb hts inX3 tyX3 tyX3_ok nmX3 hown hK hP hD hS 0 rfl rfl 0 (by decide) k_53 rfl (by decide +kernel) (rfl) (by first | rfl | decide) (Nat.le_of_ble_eq_true rfl) rfl dX3_begin_2 (fun H locs hP hD hS => ?_)
  refine lv_aload_n hx hb dX3_begin_5 rfl (lv_at hl 0 rfl) ?_
  refine lv_iload_n hx hb dX3_begin_6 rfl (lv_at hl 1 rfl) ?_
  refine kPut (D := D) (ci := 3) (v := .int s2) (ty := .int) (C := RX3) (T := TX3) (N := 20) (ws' := [(mq, .inr (3, [.int 0, .ref ak, .ref ad, .int s2, .int en, .int cm, .int fi, .ref ah, .ref am, .ref ap, .ref ag, .ref au, .ref ax, .ref al, .ref ai, .int im, .ref an, .int nm, .ref ao, .int om])), (am, .inl (cI, 4, .inl mf)), (ap, .inl (cI, 128, .inl pf)), (ag, .inl (cI, 4, .inl gf)), (au, .inl (cI, 4, .inl uf)), (ax, .inl (cI, 4, .inl xf)), (al, .inl (cI, 4, .inl lf))]) hx hb hts inX3 tyX3 tyX3_ok nmX3 hown hK hP hD hS 0 rfl rfl 3 (by decide) k_66 rfl (by decide +kernel) (rfl) (by first | rfl | decide) (Nat.le_of_ble_eq_true rfl) rfl dX3_begin_7 (fun H locs hP hD hS => ?_)
  refine lv_aload_n hx hb dX3_begin_10 rfl (lv_at hl 0 rfl) ?_
  refine lv_iload_n hx hb dX3_begin_11 rfl (lv_at hl 2 rfl) ?_
  refine kPut (D := D) (ci := 3) (v := .int e2) (ty := .boolean) (C := RX3) (T := TX3) (N := 20) (ws' := [(mq, .inr (3, [.int 0, .ref ak, .ref ad, .int s2, .int e2, .int cm, .int fi, .ref ah, .ref am, .ref ap, .ref ag, .ref au, .ref ax, .ref al, .ref ai, .int im, .ref an, .int nm, .ref ao, .int om])), (am, .inl (cI, 4, .inl mf)), (ap, .inl (cI, 128, .inl pf)), (ag, .inl (cI, 4, .inl gf)), (au, .inl (cI, 4, .inl uf)), (ax, .inl (cI, 4, .inl xf)), (al, .inl (cI, 4, .inl lf))]) hx hb hts inX3 tyX3 tyX3_ok nmX3 hown hK hP hD hS 0 rfl rfl 4 (by decide) k_16 rfl (by decide +kernel) (kZn hz) (kZf hz) (Nat.le_of_ble_eq_true rfl) rfl dX3_begin_12 (fun H locs hP hD hS => ?_)
  refine lv_aload_n hx hb dX3_begin_15 rfl (lv_at hl 0 rfl) ?_
  refine kCallV (As := []) (wc := [(mq, .inr (3, [.int 0, .ref ak, .ref ad, .int s2, .int e2, .int cm, .int fi, .ref ah, .ref am, .ref ap, .ref ag, .ref au, .ref ax, .ref al, .ref ai, .int im, .ref an, .int nm, .ref ao, .int om])), (am, .inl (cI, 4, .inl mf)), (ap, .inl (cI, 128, .inl pf)), (ag, .inl (cI, 4, .inl gf)), (au, .inl (cI, 4, .inl uf)), (ax, .inl (cI, 4, .inl xf)), (al, .inl (cI, 4, .inl lf))]) (wr := []) (ws' := [(mq, .inr (3, [.int 0, .ref ak, .ref ad, .int s2, .int e2, .int 0, .int 0, .ref ah, .ref am, .ref ap, .ref ag, .ref au, .ref ax, .ref al, .ref ai, .int im, .ref an, .int nm, .ref ao, .int 0])), (am, .inl (cI, 4, .inl (zr mf 4))), (ap, .inl (cI, 128, .inl (zr pf 128))), (ag, .inl (cI, 4, .inl (zr gf 4))), (au, .inl (cI, 4, .inl (zr uf 4))), (ax, .inl (cI, 4, .inl (zr xf 4))), (al, .inl (cI, 4, .inl (rL4 lf (s2 - 5))))]) (ci := 3) (C := RX3) ⟨hx, hb, hml, hown, hts⟩ (c_X3_anew l D cI cF cJ mq ak ad ah am ap ag au ax al ai an ao 0 s2 e2 cm fi im nm om mf pf gf uf xf lf ) (cwV 0 hts gX3_begin_X3_anew rfl rfl rfl (by decide +kernel) ⟨Nat.le_of_ble_eq_true rfl, Nat.le_of_ble_eq_true rfl⟩) hK hP hD hS hA [0, 1, 2, 3, 4, 5, 6] [] [0, 1, 2, 3, 4, 5, 6] rfl rfl rfl rfl (by decide) rfl rfl rfl rfl rfl hl.1 (Nat.le_of_ble_eq_true rfl) ⟨Nat.zero_le _, Nat.zero_le _⟩ dX3_begin_16 (fun H locs hP hD hS => ?_) rfl
  exact hret _ _ _ _ dX3_begin_19 (hP) (hD) hS

def rCp (nf : Nat → Int32) (nm : Nat) (g : Nat → Int32) : Nat → Nat → Int32
  | 0 => nf
  | k + 1 => upd (rCp nf nm g k) (nm + k) (g k)
def rSh (hf : Nat → Int32) (b m : Nat) : Nat → Nat → Int32
  | 0 => hf
  | j + 1 => upd (rSh hf b m j) (b + j) (rSh hf b m j (b + (m + j)) &&& 255)

set_option maxHeartbeats 4000000 in
set_option maxRecDepth 100000 in
theorem c_X3_give (l : Launch) (D : va_G) (cI cF cJ : ClassId) (mq ak ad ah am ap ag au ax al ai an ao : Nat) (fa st en cm fi im om : Int32) (i mg n nx : Nat) (hf mf gf nf : Nat → Int32) (hi : i < 4) (hm : mf i = nI n) (h1 : mg ≤ n) (h2 : n ≤ 16) (h3 : nx + mg ≤ 64) : kV l yX3_give wsX3_give ({ frames := 1, cells := 0, slots := 0, locals := 23 }) D (kTy cI cF cJ) [.ref mq, .int (nI i), .int (nI mg)] [(mq, .inr (3, [.int fa, .ref ak, .ref ad, .int st, .int en, .int cm, .int fi, .ref ah, .ref am, .ref ap, .ref ag, .ref au, .ref ax, .ref al, .ref ai, .int im, .ref an, .int (nI nx), .ref ao, .int om])), (ah, .inl (cI, 64, .inl hf)), (am, .inl (cI, 4, .inl mf)), (ag, .inl (cI, 4, .inl gf)), (an, .inl (cI, 64, .inl nf))] [(mq, .inr (3, [.int fa, .ref ak, .ref ad, .int st, .int en, .int cm, .int fi, .ref ah, .ref am, .ref ap, .ref ag, .ref au, .ref ax, .ref al, .ref ai, .int im, .ref an, .int (nI (nx + mg)), .ref ao, .int om])), (ah, .inl (cI, 64, .inl (rSh hf (16 * i) mg (n - mg)))), (am, .inl (cI, 4, .inl (upd mf i (nI (n - mg))))), (ag, .inl (cI, 4, .inl (upd gf i (gf i + nI mg)))), (an, .inl (cI, 64, .inl (rCp nf nx (fun k => hf (16 * i + k)) mg)))] := by
  refine kV_of (cc := cX3_give) (nL := 4) (own := RX3) (lv := [(0, .ref mq), (1, .int (nI i)), (2, .int (nI mg))]) (by decide) rfl rfl (Nat.le_of_ble_eq_true rfl) rfl ?_
  intro p e s m args below meth c A ls Q C hA hK hP hD hS hl hret
  obtain ⟨hx, hb, hr, hml, hown, hts, hlocks⟩ := C
  have k_23 := hts (.fieldLink RX3 23 "BranchFiltersModel" "heldMany" "[I") (by decide +kernel)
  have k_29 := hts (.fieldLink RX3 29 "BranchFiltersModel" "given" "[I") (by decide +kernel)
  have k_44 := hts (.fieldLink RX3 44 "BranchFiltersModel" "next" "[I") (by decide +kernel)
  have k_85 := hts (.fieldLink RX3 85 "BranchFiltersModel" "nextMany" "I") (by decide +kernel)
  have inX3 : ∀ w ∈ wsX30, w ∈ wsX3_give := by decide +kernel
  refine lv_iconst (v := 0) hx hb dX3_give_0 (by decide) ?_
  refine lv_istore_n (lv' := [(3, .int 0), (0, .ref mq), (1, .int (nI i)), (2, .int (nI mg))]) hx hb dX3_give_1 rfl hl (by decide) rfl (fun ls hl => ?_)
  have loop : ∀ (K : Nat) (j : Nat) (hj : j + K = mg) (H : Heap) (locs : List Loc) (ls : Array Slot), va_P D vwCl [(mq, .inr (3, [.int fa, .ref ak, .ref ad, .int st, .int en, .int cm, .int fi, .ref ah, .ref am, .ref ap, .ref ag, .ref au, .ref ax, .ref al, .ref ai, .int im, .ref an, .int (nI (nx + j)), .ref ao, .int om])), (ah, .inl (cI, 64, .inl hf)), (am, .inl (cI, 4, .inl mf)), (ag, .inl (cI, 4, .inl gf)), (an, .inl (cI, 64, .inl (rCp nf nx (fun k => hf (16 * i + k)) j)))] H → va_D A [(mq, .inr (3, [.int fa, .ref ak, .ref ad, .int st, .int en, .int cm, .int fi, .ref ah, .ref am, .ref ap, .ref ag, .ref au, .ref ax, .ref al, .ref ai, .int im, .ref an, .int (nI (nx + j)), .ref ao, .int om])), (ah, .inl (cI, 64, .inl hf)), (am, .inl (cI, 4, .inl mf)), (ag, .inl (cI, 4, .inl gf)), (an, .inl (cI, 64, .inl (rCp nf nx (fun k => hf (16 * i + k)) j)))] → va_S A s.heap H locs → lv_has ls 4 [(0, .ref mq), (1, .int (nI i)), (2, .int (nI mg)), (3, .int (nI j))] → W p l e ({ frames := 1, cells := 0, slots := 0, locals := 23 }) s m args below meth c H locs 0 0 Q (kFr m 2 ls []) := by
    intro K
    induction K with
    | zero =>
      intro j hj H locs ls hP hD hS hl
      have ej : j = mg := by omega
      subst ej
      refine lv_iload_n hx hb dX3_give_2 rfl (lv_at hl 3 rfl) ?_
      refine lv_iload_n hx hb dX3_give_3 rfl (lv_at hl 2 rfl) ?_
      refine lv_icmp_ge (tgt := 38) hx hb dX3_give_4 (by decide) (fun c_1 => ?_) (fun c_1 => ?_)
      · refine lv_iload_n hx hb dX3_give_38 rfl (lv_at hl 2 rfl) ?_
        refine lv_istore_n (lv' := [(3, .int (nI j)), (0, .ref mq), (1, .int (nI i)), (2, .int (nI j))]) hx hb dX3_give_39 rfl hl (by decide) rfl (fun ls hl => ?_)
        have loop2 : ∀ (K : Nat) (t : Nat) (ht : t + K = n - j) (H : Heap) (locs : List Loc) (ls : Array Slot), va_P D vwCl [(mq, .inr (3, [.int fa, .ref ak, .ref ad, .int st, .int en, .int cm, .int fi, .ref ah, .ref am, .ref ap, .ref ag, .ref au, .ref ax, .ref al, .ref ai, .int im, .ref an, .int (nI (nx + j)), .ref ao, .int om])), (ah, .inl (cI, 64, .inl (rSh hf (16 * i) j t))), (am, .inl (cI, 4, .inl mf)), (ag, .inl (cI, 4, .inl gf)), (an, .inl (cI, 64, .inl (rCp nf nx (fun k => hf (16 * i + k)) j)))] H → va_D A [(mq, .inr (3, [.int fa, .ref ak, .ref ad, .int st, .int en, .int cm, .int fi, .ref ah, .ref am, .ref ap, .ref ag, .ref au, .ref ax, .ref al, .ref ai, .int im, .ref an, .int (nI (nx + j)), .ref ao, .int om])), (ah, .inl (cI, 64, .inl (rSh hf (16 * i) j t))), (am, .inl (cI, 4, .inl mf)), (ag, .inl (cI, 4, .inl gf)), (an, .inl (cI, 64, .inl (rCp nf nx (fun k => hf (16 * i + k)) j)))] → va_S A s.heap H locs → lv_has ls 4 [(0, .ref mq), (1, .int (nI i)), (2, .int (nI j)), (3, .int (nI (j + t)))] → W p l e ({ frames := 1, cells := 0, slots := 0, locals := 23 }) s m args below meth c H locs 0 0 Q (kFr m 40 ls []) := by
          intro K
          induction K with
          | zero =>
            intro t ht H locs ls hP hD hS hl
            have et : t = n - j := by omega
            subst et
            refine lv_iload_n hx hb dX3_give_40 rfl (lv_at hl 3 rfl) ?_
            refine lv_aload_n hx hb dX3_give_41 rfl (lv_at hl 0 rfl) ?_
            refine va_get (D := D) (ci := 3) (v := .ref am) (C := RX3) (T := TX3) (N := 20) hx hb hts inX3 hown hK hP 0 rfl rfl 8 (by decide) k_23 (fun _ h9 => h9) rfl dX3_give_42 ?_
            refine lv_iload_n hx hb dX3_give_45 rfl (lv_at hl 1 rfl) ?_
            refine kIald (k := i) hx hb hK hP 2 0 rfl rfl (rfl) (by omega) (by omega) dX3_give_46 ?_
            refine kTop (y := nI n) (hm) ?_
            refine lv_icmp_ge (tgt := 70) hx hb dX3_give_47 (by decide) (fun c_2 => ?_) (fun c_2 => ?_)
            · refine lv_aload_n hx hb dX3_give_70 rfl (lv_at hl 0 rfl) ?_
              refine va_get (D := D) (ci := 3) (v := .ref am) (C := RX3) (T := TX3) (N := 20) hx hb hts inX3 hown hK hP 0 rfl rfl 8 (by decide) k_23 (fun _ h9 => h9) rfl dX3_give_71 ?_
              refine lv_iload_n hx hb dX3_give_74 rfl (lv_at hl 1 rfl) ?_
              refine lv_aload_n hx hb dX3_give_75 rfl (lv_at hl 0 rfl) ?_
              refine va_get (D := D) (ci := 3) (v := .ref am) (C := RX3) (T := TX3) (N := 20) hx hb hts inX3 hown hK hP 0 rfl rfl 8 (by decide) k_23 (fun _ h9 => h9) rfl dX3_give_76 ?_
              refine lv_iload_n hx hb dX3_give_79 rfl (lv_at hl 1 rfl) ?_
              refine kIald (k := i) hx hb hK hP 2 0 rfl rfl (rfl) (by omega) (by omega) dX3_give_80 ?_
              refine lv_iload_n hx hb dX3_give_81 rfl (lv_at hl 2 rfl) ?_
              refine lv_isub hx hb dX3_give_82 ?_
              refine kTop (y := nI (n - j)) (by rw [hm]; exact pk_sub h1) ?_
              refine kIast (k := i) (ws' := [(mq, .inr (3, [.int fa, .ref ak, .ref ad, .int st, .int en, .int cm, .int fi, .ref ah, .ref am, .ref ap, .ref ag, .ref au, .ref ax, .ref al, .ref ai, .int im, .ref an, .int (nI (nx + j)), .ref ao, .int om])), (ah, .inl (cI, 64, .inl (rSh hf (16 * i) j (n - j)))), (am, .inl (cI, 4, .inl (upd mf i (nI (n - j))))), (ag, .inl (cI, 4, .inl gf)), (an, .inl (cI, 64, .inl (rCp nf nx (fun k => hf (16 * i + k)) j)))]) hx hb hK hP hD hS 2 0 rfl rfl (rfl) (by omega) (by omega) rfl dX3_give_83 (fun H locs hP hD hS => ?_)
              refine lv_aload_n hx hb dX3_give_84 rfl (lv_at hl 0 rfl) ?_
              refine va_get (D := D) (ci := 3) (v := .ref ag) (C := RX3) (T := TX3) (N := 20) hx hb hts inX3 hown hK hP 0 rfl rfl 10 (by decide) k_29 (fun _ h9 => h9) rfl dX3_give_85 ?_
              refine lv_iload_n hx hb dX3_give_88 rfl (lv_at hl 1 rfl) ?_
              refine lv_aload_n hx hb dX3_give_89 rfl (lv_at hl 0 rfl) ?_
              refine va_get (D := D) (ci := 3) (v := .ref ag) (C := RX3) (T := TX3) (N := 20) hx hb hts inX3 hown hK hP 0 rfl rfl 10 (by decide) k_29 (fun _ h9 => h9) rfl dX3_give_90 ?_
              refine lv_iload_n hx hb dX3_give_93 rfl (lv_at hl 1 rfl) ?_
              refine kIald (k := i) hx hb hK hP 3 0 rfl rfl (rfl) (by omega) (by omega) dX3_give_94 ?_
              refine lv_iload_n hx hb dX3_give_95 rfl (lv_at hl 2 rfl) ?_
              refine lv_iadd hx hb dX3_give_96 ?_
              refine kIast (k := i) (ws' := [(mq, .inr (3, [.int fa, .ref ak, .ref ad, .int st, .int en, .int cm, .int fi, .ref ah, .ref am, .ref ap, .ref ag, .ref au, .ref ax, .ref al, .ref ai, .int im, .ref an, .int (nI (nx + j)), .ref ao, .int om])), (ah, .inl (cI, 64, .inl (rSh hf (16 * i) j (n - j)))), (am, .inl (cI, 4, .inl (upd mf i (nI (n - j))))), (ag, .inl (cI, 4, .inl (upd gf i ((gf i) + (nI j))))), (an, .inl (cI, 64, .inl (rCp nf nx (fun k => hf (16 * i + k)) j)))]) hx hb hK hP hD hS 3 0 rfl rfl (rfl) (by omega) (by omega) rfl dX3_give_97 (fun H locs hP hD hS => ?_)
              exact hret _ _ _ _ dX3_give_98 (hP) (hD) hS
            · exact absurd ((kLe rfl rfl (by omega) (by omega)).mpr (by omega)) c_2
          | succ K ih =>
            intro t ht H locs ls hP hD hS hl
            refine lv_iload_n hx hb dX3_give_40 rfl (lv_at hl 3 rfl) ?_
            refine lv_aload_n hx hb dX3_give_41 rfl (lv_at hl 0 rfl) ?_
            refine va_get (D := D) (ci := 3) (v := .ref am) (C := RX3) (T := TX3) (N := 20) hx hb hts inX3 hown hK hP 0 rfl rfl 8 (by decide) k_23 (fun _ h9 => h9) rfl dX3_give_42 ?_
            refine lv_iload_n hx hb dX3_give_45 rfl (lv_at hl 1 rfl) ?_
            refine kIald (k := i) hx hb hK hP 2 0 rfl rfl (rfl) (by omega) (by omega) dX3_give_46 ?_
            refine kTop (y := nI n) (hm) ?_
            refine lv_icmp_ge (tgt := 70) hx hb dX3_give_47 (by decide) (fun c_3 => ?_) (fun c_3 => ?_)
            · exact absurd ((kLe rfl rfl (by omega) (by omega)).mp c_3) (by omega)
            · refine lv_aload_n hx hb dX3_give_50 rfl (lv_at hl 0 rfl) ?_
              refine lv_iload_n hx hb dX3_give_51 rfl (lv_at hl 1 rfl) ?_
              refine lv_iload_n hx hb dX3_give_52 rfl (lv_at hl 3 rfl) ?_
              refine lv_iload_n hx hb dX3_give_53 rfl (lv_at hl 2 rfl) ?_
              refine lv_isub hx hb dX3_give_54 ?_
              refine kTop (y := nI t) ((pk_sub (a := j + t) (b := j) (by omega)).trans (by rw [Nat.add_sub_cancel_left])) ?_
              refine lv_aload_n hx hb dX3_give_55 rfl (lv_at hl 0 rfl) ?_
              refine lv_iload_n hx hb dX3_give_56 rfl (lv_at hl 1 rfl) ?_
              refine lv_iload_n hx hb dX3_give_57 rfl (lv_at hl 3 rfl) ?_
              refine kCallI (As := [.int (nI i), .int (nI (j + t))]) (wc := [(mq, .inr (3, [.int fa, .ref ak, .ref ad, .int st, .int en, .int cm, .int fi, .ref ah, .ref am, .ref ap, .ref ag, .ref au, .ref ax, .ref al, .ref ai, .int im, .ref an, .int (nI (nx + j)), .ref ao, .int om])), (ah, .inl (cI, 64, .inl (rSh hf (16 * i) j t)))]) (wr := [(am, .inl (cI, 4, .inl mf)), (ag, .inl (cI, 4, .inl gf)), (an, .inl (cI, 64, .inl (rCp nf nx (fun k => hf (16 * i + k)) j)))]) (ws' := [(mq, .inr (3, [.int fa, .ref ak, .ref ad, .int st, .int en, .int cm, .int fi, .ref ah, .ref am, .ref ap, .ref ag, .ref au, .ref ax, .ref al, .ref ai, .int im, .ref an, .int (nI (nx + j)), .ref ao, .int om])), (ah, .inl (cI, 64, .inl (rSh hf (16 * i) j t))), (am, .inl (cI, 4, .inl mf)), (ag, .inl (cI, 4, .inl gf)), (an, .inl (cI, 64, .inl (rCp nf nx (fun k => hf (16 * i + k)) j)))]) (ci := 3) (C := RX3) ⟨hx, hb, hml, hown, hts⟩ (c_X3_at l D cI cF cJ mq ak ad ah am ap ag au ax al ai an ao fa st en cm fi im (nI (nx + j)) om i (j + t) (rSh hf (16 * i) j t) (by omega) (by omega)) (cwV 2 hts gX3_give_X3_at rfl rfl rfl (by decide +kernel) ⟨Nat.le_of_ble_eq_true rfl, Nat.le_of_ble_eq_true rfl⟩) hK hP hD hS hA [0, 1] [2, 3, 4] [3, 4, 0, 1, 2] rfl rfl rfl rfl (by decide) rfl rfl rfl rfl rfl hl.1 (Nat.le_of_ble_eq_true rfl) ⟨Nat.zero_le _, Nat.zero_le _⟩ dX3_give_58 (fun H locs hP hD hS => ?_) rfl
              refine kCallV (As := [.int (nI i), .int (nI t), .int ((rSh hf (16 * i) j t) (16 * i + (j + t)))]) (wc := [(mq, .inr (3, [.int fa, .ref ak, .ref ad, .int st, .int en, .int cm, .int fi, .ref ah, .ref am, .ref ap, .ref ag, .ref au, .ref ax, .ref al, .ref ai, .int im, .ref an, .int (nI (nx + j)), .ref ao, .int om])), (ah, .inl (cI, 64, .inl (rSh hf (16 * i) j t)))]) (wr := [(am, .inl (cI, 4, .inl mf)), (ag, .inl (cI, 4, .inl gf)), (an, .inl (cI, 64, .inl (rCp nf nx (fun k => hf (16 * i + k)) j)))]) (ws' := [(mq, .inr (3, [.int fa, .ref ak, .ref ad, .int st, .int en, .int cm, .int fi, .ref ah, .ref am, .ref ap, .ref ag, .ref au, .ref ax, .ref al, .ref ai, .int im, .ref an, .int (nI (nx + j)), .ref ao, .int om])), (ah, .inl (cI, 64, .inl (upd (rSh hf (16 * i) j t) (16 * i + t) (((rSh hf (16 * i) j t) (16 * i + (j + t))) &&& 255)))), (am, .inl (cI, 4, .inl mf)), (ag, .inl (cI, 4, .inl gf)), (an, .inl (cI, 64, .inl (rCp nf nx (fun k => hf (16 * i + k)) j)))]) (ci := 3) (C := RX3) ⟨hx, hb, hml, hown, hts⟩ (c_X3_change l D cI cF cJ mq ak ad ah am ap ag au ax al ai an ao fa st en cm fi im (nI (nx + j)) om i t ((rSh hf (16 * i) j t) (16 * i + (j + t))) (rSh hf (16 * i) j t) (by omega) (by omega)) (cwV 3 hts gX3_give_X3_change rfl rfl rfl (by decide +kernel) ⟨Nat.le_of_ble_eq_true rfl, Nat.le_of_ble_eq_true rfl⟩) hK hP hD hS hA [0, 1] [2, 3, 4] [3, 4, 0, 1, 2] rfl rfl rfl rfl (by decide) rfl rfl rfl rfl rfl hl.1 (Nat.le_of_ble_eq_true rfl) ⟨Nat.zero_le _, Nat.zero_le _⟩ dX3_give_61 (fun H locs hP hD hS => ?_) rfl
              refine lv_iinc (v := nI ((j + t) + 1)) (lv' := [(3, .int (nI ((j + t) + 1))), (0, .ref mq), (1, .int (nI i)), (2, .int (nI j))]) hx hb dX3_give_64 hl (k := 3) rfl (nI_1 _) (by decide) rfl (fun ls hl => ?_)
              refine lv_goto (tgt := 40) hx hb dX3_give_67 (by decide) ?_
              exact ih (t + 1) (by omega) _ _ _ hP hD hS (lv_sub hl [1, 2, 3, 0] rfl)
        exact loop2 (n - j) 0 (by omega) _ _ _ hP hD hS (lv_sub hl [1, 2, 3, 0] rfl)
      · exact absurd ((kLe rfl rfl (by omega) (by omega)).mpr (Nat.le_refl _)) c_1
    | succ K ih =>
      intro j hj H locs ls hP hD hS hl
      refine lv_iload_n hx hb dX3_give_2 rfl (lv_at hl 3 rfl) ?_
      refine lv_iload_n hx hb dX3_give_3 rfl (lv_at hl 2 rfl) ?_
      refine lv_icmp_ge (tgt := 38) hx hb dX3_give_4 (by decide) (fun c_4 => ?_) (fun c_4 => ?_)
      · exact absurd ((kLe rfl rfl (by omega) (by omega)).mp c_4) (by omega)
      · refine lv_aload_n hx hb dX3_give_7 rfl (lv_at hl 0 rfl) ?_
        refine va_get (D := D) (ci := 3) (v := .ref an) (C := RX3) (T := TX3) (N := 20) hx hb hts inX3 hown hK hP 0 rfl rfl 16 (by decide) k_44 (fun _ h9 => h9) rfl dX3_give_8 ?_
        refine lv_aload_n hx hb dX3_give_11 rfl (lv_at hl 0 rfl) ?_
        refine va_get (D := D) (ci := 3) (v := .int (nI (nx + j))) (C := RX3) (T := TX3) (N := 20) hx hb hts inX3 hown hK hP 0 rfl rfl 17 (by decide) k_85 (fun _ h9 => h9) rfl dX3_give_12 ?_
        refine lv_aload_n hx hb dX3_give_15 rfl (lv_at hl 0 rfl) ?_
        refine lv_iload_n hx hb dX3_give_16 rfl (lv_at hl 1 rfl) ?_
        refine lv_iload_n hx hb dX3_give_17 rfl (lv_at hl 3 rfl) ?_
        refine kCallI (As := [.int (nI i), .int (nI j)]) (wc := [(mq, .inr (3, [.int fa, .ref ak, .ref ad, .int st, .int en, .int cm, .int fi, .ref ah, .ref am, .ref ap, .ref ag, .ref au, .ref ax, .ref al, .ref ai, .int im, .ref an, .int (nI (nx + j)), .ref ao, .int om])), (ah, .inl (cI, 64, .inl hf))]) (wr := [(am, .inl (cI, 4, .inl mf)), (ag, .inl (cI, 4, .inl gf)), (an, .inl (cI, 64, .inl (rCp nf nx (fun k => hf (16 * i + k)) j)))]) (ws' := [(mq, .inr (3, [.int fa, .ref ak, .ref ad, .int st, .int en, .int cm, .int fi, .ref ah, .ref am, .ref ap, .ref ag, .ref au, .ref ax, .ref al, .ref ai, .int im, .ref an, .int (nI (nx + j)), .ref ao, .int om])), (ah, .inl (cI, 64, .inl hf)), (am, .inl (cI, 4, .inl mf)), (ag, .inl (cI, 4, .inl gf)), (an, .inl (cI, 64, .inl (rCp nf nx (fun k => hf (16 * i + k)) j)))]) (ci := 3) (C := RX3) ⟨hx, hb, hml, hown, hts⟩ (c_X3_at l D cI cF cJ mq ak ad ah am ap ag au ax al ai an ao fa st en cm fi im (nI (nx + j)) om i j hf (by omega) (by omega)) (cwV 2 hts gX3_give_X3_at rfl rfl rfl (by decide +kernel) ⟨Nat.le_of_ble_eq_true rfl, Nat.le_of_ble_eq_true rfl⟩) hK hP hD hS hA [0, 1] [2, 3, 4] [3, 4, 0, 1, 2] rfl rfl rfl rfl (by decide) rfl rfl rfl rfl rfl hl.1 (Nat.le_of_ble_eq_true rfl) ⟨Nat.zero_le _, Nat.zero_le _⟩ dX3_give_18 (fun H locs hP hD hS => ?_) rfl
        refine kIast (k := (nx + j)) (ws' := [(mq, .inr (3, [.int fa, .ref ak, .ref ad, .int st, .int en, .int cm, .int fi, .ref ah, .ref am, .ref ap, .ref ag, .ref au, .ref ax, .ref al, .ref ai, .int im, .ref an, .int (nI (nx + j)), .ref ao, .int om])), (ah, .inl (cI, 64, .inl hf)), (am, .inl (cI, 4, .inl mf)), (ag, .inl (cI, 4, .inl gf)), (an, .inl (cI, 64, .inl (upd (rCp nf nx (fun k => hf (16 * i + k)) j) (nx + j) (hf (16 * i + j)))))]) hx hb hK hP hD hS 4 0 rfl rfl (rfl) (by omega) (by omega) rfl dX3_give_21 (fun H locs hP hD hS => ?_)
        refine lv_aload_n hx hb dX3_give_22 rfl (lv_at hl 0 rfl) ?_
        refine lv_dup hx hb dX3_give_23 rfl ?_
        refine va_get (D := D) (ci := 3) (v := .int (nI (nx + j))) (C := RX3) (T := TX3) (N := 20) hx hb hts inX3 hown hK hP 0 rfl rfl 17 (by decide) k_85 (fun _ h9 => h9) rfl dX3_give_24 ?_
        refine lv_iconst (v := 1) hx hb dX3_give_27 (by decide) ?_
        refine lv_iadd hx hb dX3_give_28 ?_
        refine kTop (y := nI ((nx + j) + 1)) (nI_add (nx + j) 1) ?_
        refine kPut (D := D) (ci := 3) (v := .int (nI ((nx + j) + 1))) (ty := .int) (C := RX3) (T := TX3) (N := 20) (ws' := [(mq, .inr (3, [.int fa, .ref ak, .ref ad, .int st, .int en, .int cm, .int fi, .ref ah, .ref am, .ref ap, .ref ag, .ref au, .ref ax, .ref al, .ref ai, .int im, .ref an, .int (nI ((nx + j) + 1)), .ref ao, .int om])), (ah, .inl (cI, 64, .inl hf)), (am, .inl (cI, 4, .inl mf)), (ag, .inl (cI, 4, .inl gf)), (an, .inl (cI, 64, .inl (upd (rCp nf nx (fun k => hf (16 * i + k)) j) (nx + j) (hf (16 * i + j)))))]) hx hb hts inX3 tyX3 tyX3_ok nmX3 hown hK hP hD hS 0 rfl rfl 17 (by decide) k_85 rfl (by decide +kernel) (rfl) (by first | rfl | decide) (Nat.le_of_ble_eq_true rfl) rfl dX3_give_29 (fun H locs hP hD hS => ?_)
        refine lv_iinc (v := nI (j + 1)) (lv' := [(3, .int (nI (j + 1))), (0, .ref mq), (1, .int (nI i)), (2, .int (nI mg))]) hx hb dX3_give_32 hl (k := 3) rfl (nI_1 _) (by decide) rfl (fun ls hl => ?_)
        refine lv_goto (tgt := 2) hx hb dX3_give_35 (by decide) ?_
        exact ih (j + 1) (by omega) _ _ _ hP hD hS (lv_sub hl [1, 2, 3, 0] rfl)
  exact loop mg 0 (by omega) _ _ _ hP hD hS (lv_sub hl [1, 2, 3, 0] rfl)
