/-! BranchFilters$Filter: step, restart, giveRest -/

/-- how many bytes a kind wants -/
def cNeed : Nat → Nat
  | 0 => 1
  | 1 => 1
  | 2 => 5
  | 3 => 4
  | 4 => 4
  | 5 => 4
  | 6 => 4
  | _ => 8
/-- a step of the filter: how many bytes, the count of numbers put, MASK, LAST, the past, the bytes -/
def cStep (kn : Nat) (en pl ds rp mk la : Int32) (h : Nat) (g pf : Nat → Int32) : Int32 × Int32 × Int32 × Int32 × (Nat → Int32) × (Nat → Int32) :=
  match kn with
  | 0 => (1, rp, mk, la, g, pf)
  | 1 => ((cDelta en pl ds h g pf).1, rp, mk, la, (cDelta en pl ds h g pf).2.1, (cDelta en pl ds h g pf).2.2)
  | 2 => ((cX86 en pl rp mk la h g).1, (cX86 en pl rp mk la h g).2.1, (cX86 en pl rp mk la h g).2.2.1, (cX86 en pl rp mk la h g).2.2.2.1, (cX86 en pl rp mk la h g).2.2.2.2, pf)
  | 3 => ((cArm en pl rp h g).1, (cArm en pl rp h g).2.1, mk, la, (cArm en pl rp h g).2.2, pf)
  | 4 => ((cThumb en pl rp h g).1, (cThumb en pl rp h g).2.1, mk, la, (cThumb en pl rp h g).2.2, pf)
  | 5 => ((cPower en pl rp h g).1, (cPower en pl rp h g).2.1, mk, la, (cPower en pl rp h g).2.2, pf)
  | 6 => ((cSparc en pl rp h g).1, (cSparc en pl rp h g).2.1, mk, la, (cSparc en pl rp h g).2.2, pf)
  | _ => ((cRisc en pl rp h g).1, (cRisc en pl rp h g).2.1, mk, la, (cRisc en pl rp h g).2.2, pf)

set_option maxHeartbeats 4000000 in
set_option maxRecDepth 100000 in
/-- Filter.step() -/
theorem c_X0_step (l : Launch) (D : va_G) (cI cF cJ : ClassId) (q ro pa rb h kn : Nat) (ds en pl gv rp mk la sz : Int32) (g pf : Nat → Int32) (hkn : kn < 8) (hk : h + cNeed kn ≤ 64) : kI l yX0_step wsX0_step ({ frames := 3, cells := 0, slots := 0, locals := 73 }) D (kTy cI cF cJ) [.ref q] [(q, .inr (0, [.ref ro, .ref pa, .int (nI kn), .int ds, .int en, .int pl, .int (nI h), .int gv, .int rp, .int mk, .int la])), (ro, .inr (1, [.ref rb, .int sz])), (rb, .inl (cI, 64, .inl g)), (pa, .inl (cI, 32, .inl pf))] [(q, .inr (0, [.ref ro, .ref pa, .int (nI kn), .int ds, .int en, .int pl, .int (nI h), .int gv, .int ((cStep kn en pl ds rp mk la h g pf).2.1), .int ((cStep kn en pl ds rp mk la h g pf).2.2.1), .int ((cStep kn en pl ds rp mk la h g pf).2.2.2.1)])), (ro, .inr (1, [.ref rb, .int sz])), (rb, .inl (cI, 64, .inl ((cStep kn en pl ds rp mk la h g pf).2.2.2.2.1))), (pa, .inl (cI, 32, .inl ((cStep kn en pl ds rp mk la h g pf).2.2.2.2.2)))] ((cStep kn en pl ds rp mk la h g pf).1) := by
  refine kI_of (cc := cX0_step) (nL := 1) (ty := .int) (own := RX0) (lv := [(0, .ref q)]) (by decide) rfl rfl (Nat.le_of_ble_eq_true rfl) rfl (rfl) ?_
  intro p e s m args below meth c A ls Q C hA hK hP hD hS hl hret
  obtain ⟨hx, hb, hr, hml, hown, hts, hlocks⟩ := C
  have k_32 := hts (.fieldLink RX0 32 "BranchFilters$Filter" "kind" "I") (by decide +kernel)
  have inX0 : ∀ w ∈ wsX00, w ∈ wsX0_step := by decide +kernel
  have hc : kn = 0 ∨ kn = 1 ∨ kn = 2 ∨ kn = 3 ∨ kn = 4 ∨ kn = 5 ∨ kn = 6 ∨ kn = 7 := by omega
  rcases hc with rfl | rfl | rfl | rfl | rfl | rfl | rfl | rfl
  · have hk : h + 1 ≤ 64 := hk
    refine lv_aload_n hx hb dX0_step_0 rfl (lv_at hl 0 rfl) ?_
    refine va_get (D := D) (ci := 0) (v := .int (nI 0)) (C := RX0) (T := TX0) (N := 11) hx hb hts inX0 hown hK hP 0 rfl rfl 2 (by decide) k_32 (fun _ h9 => h9) rfl dX0_step_1 ?_
    refine lv_tableOut (tgt := 83) hx hb dX0_step_4 (Or.inl (by decide)) (by decide) ?_
    refine lv_iconst (v := 1) hx hb dX0_step_83 (by decide) ?_
    exact hret _ _ _ _ _ dX0_step_84 rfl hP hD hS
  · have hk : h + 1 ≤ 64 := hk
    refine lv_aload_n hx hb dX0_step_0 rfl (lv_at hl 0 rfl) ?_
    refine va_get (D := D) (ci := 0) (v := .int (nI 1)) (C := RX0) (T := TX0) (N := 11) hx hb hts inX0 hown hK hP 0 rfl rfl 2 (by decide) k_32 (fun _ h9 => h9) rfl dX0_step_1 ?_
    refine lv_tableIn (tgt := 48) hx hb dX0_step_4 (by decide) (by decide) rfl (by decide) ?_
    refine lv_aload_n hx hb dX0_step_48 rfl (lv_at hl 0 rfl) ?_
    refine kCallI (As := []) (wc := [(q, .inr (0, [.ref ro, .ref pa, .int (nI 1), .int ds, .int en, .int pl, .int (nI h), .int gv, .int rp, .int mk, .int la])), (ro, .inr (1, [.ref rb, .int sz])), (rb, .inl (cI, 64, .inl g)), (pa, .inl (cI, 32, .inl pf))]) (wr := []) (ws' := [(q, .inr (0, [.ref ro, .ref pa, .int (nI 1), .int ds, .int en, .int pl, .int (nI h), .int gv, .int rp, .int mk, .int la])), (ro, .inr (1, [.ref rb, .int sz])), (rb, .inl (cI, 64, .inl ((cDelta en pl ds h g pf).2.1))), (pa, .inl (cI, 32, .inl ((cDelta en pl ds h g pf).2.2)))]) (ci := 0) (C := RX0) ⟨hx, hb, hml, hown, hts⟩ (c_X0_stepDelta l D cI cF cJ q ro pa rb h (nI 1) ds en pl gv rp mk la sz g pf (by omega)) (cwV 0 hts gX0_step_X0_stepDelta rfl rfl rfl (by decide +kernel) ⟨Nat.le_of_ble_eq_true rfl, Nat.le_of_ble_eq_true rfl⟩) hK hP hD hS hA [0, 1, 2, 3] [] [0, 1, 2, 3] rfl rfl rfl rfl (by decide) rfl rfl rfl rfl rfl hl.1 (Nat.le_of_ble_eq_true rfl) ⟨Nat.zero_le _, Nat.zero_le _⟩ dX0_step_49 (fun H locs hP hD hS => ?_) rfl
    exact hret _ _ _ _ _ dX0_step_52 rfl hP hD hS
  · have hk : h + 5 ≤ 64 := hk
    refine lv_aload_n hx hb dX0_step_0 rfl (lv_at hl 0 rfl) ?_
    refine va_get (D := D) (ci := 0) (v := .int (nI 2)) (C := RX0) (T := TX0) (N := 11) hx hb hts inX0 hown hK hP 0 rfl rfl 2 (by decide) k_32 (fun _ h9 => h9) rfl dX0_step_1 ?_
    refine lv_tableIn (tgt := 53) hx hb dX0_step_4 (by decide) (by decide) rfl (by decide) ?_
    refine lv_aload_n hx hb dX0_step_53 rfl (lv_at hl 0 rfl) ?_
    refine kCallI (As := []) (wc := [(q, .inr (0, [.ref ro, .ref pa, .int (nI 2), .int ds, .int en, .int pl, .int (nI h), .int gv, .int rp, .int mk, .int la])), (ro, .inr (1, [.ref rb, .int sz])), (rb, .inl (cI, 64, .inl g))]) (wr := [(pa, .inl (cI, 32, .inl pf))]) (ws' := [(q, .inr (0, [.ref ro, .ref pa, .int (nI 2), .int ds, .int en, .int pl, .int (nI h), .int gv, .int ((cX86 en pl rp mk la h g).2.1), .int ((cX86 en pl rp mk la h g).2.2.1), .int ((cX86 en pl rp mk la h g).2.2.2.1)])), (ro, .inr (1, [.ref rb, .int sz])), (rb, .inl (cI, 64, .inl ((cX86 en pl rp mk la h g).2.2.2.2))), (pa, .inl (cI, 32, .inl pf))]) (ci := 0) (C := RX0) ⟨hx, hb, hml, hown, hts⟩ (c_X0_stepX86 l D cI cF cJ q ro pa rb h (nI 2) ds en pl gv rp mk la sz g (by omega)) (cwV 0 hts gX0_step_X0_stepX86 rfl rfl rfl (by decide +kernel) ⟨Nat.le_of_ble_eq_true rfl, Nat.le_of_ble_eq_true rfl⟩) hK hP hD hS hA [0, 1, 2] [3] [1, 2, 3, 0] rfl rfl rfl rfl (by decide) rfl rfl rfl rfl rfl hl.1 (Nat.le_of_ble_eq_true rfl) ⟨Nat.zero_le _, Nat.zero_le _⟩ dX0_step_54 (fun H locs hP hD hS => ?_) rfl
    exact hret _ _ _ _ _ dX0_step_57 rfl hP hD hS
  · have hk : h + 4 ≤ 64 := hk
    refine lv_aload_n hx hb dX0_step_0 rfl (lv_at hl 0 rfl) ?_
    refine va_get (D := D) (ci := 0) (v := .int (nI 3)) (C := RX0) (T := TX0) (N := 11) hx hb hts inX0 hown hK hP 0 rfl rfl 2 (by decide) k_32 (fun _ h9 => h9) rfl dX0_step_1 ?_
    refine lv_tableIn (tgt := 58) hx hb dX0_step_4 (by decide) (by decide) rfl (by decide) ?_
    refine lv_aload_n hx hb dX0_step_58 rfl (lv_at hl 0 rfl) ?_
    refine kCallI (As := []) (wc := [(q, .inr (0, [.ref ro, .ref pa, .int (nI 3), .int ds, .int en, .int pl, .int (nI h), .int gv, .int rp, .int mk, .int la])), (ro, .inr (1, [.ref rb, .int sz])), (rb, .inl (cI, 64, .inl g))]) (wr := [(pa, .inl (cI, 32, .inl pf))]) (ws' := [(q, .inr (0, [.ref ro, .ref pa, .int (nI 3), .int ds, .int en, .int pl, .int (nI h), .int gv, .int ((cArm en pl rp h g).2.1), .int mk, .int la])), (ro, .inr (1, [.ref rb, .int sz])), (rb, .inl (cI, 64, .inl ((cArm en pl rp h g).2.2))), (pa, .inl (cI, 32, .inl pf))]) (ci := 0) (C := RX0) ⟨hx, hb, hml, hown, hts⟩ (c_X0_stepArm l D cI cF cJ q ro pa rb h (nI 3) ds en pl gv rp mk la sz g (by omega)) (cwV 0 hts gX0_step_X0_stepArm rfl rfl rfl (by decide +kernel) ⟨Nat.le_of_ble_eq_true rfl, Nat.le_of_ble_eq_true rfl⟩) hK hP hD hS hA [0, 1, 2] [3] [1, 2, 3, 0] rfl rfl rfl rfl (by decide) rfl rfl rfl rfl rfl hl.1 (Nat.le_of_ble_eq_true rfl) ⟨Nat.zero_le _, Nat.zero_le _⟩ dX0_step_59 (fun H locs hP hD hS => ?_) rfl
    exact hret _ _ _ _ _ dX0_step_62 rfl hP hD hS
  · have hk : h + 4 ≤ 64 := hk
    refine lv_aload_n hx hb dX0_step_0 rfl (lv_at hl 0 rfl) ?_
    refine va_get (D := D) (ci := 0) (v := .int (nI 4)) (C := RX0) (T := TX0) (N := 11) hx hb hts inX0 hown hK hP 0 rfl rfl 2 (by decide) k_32 (fun _ h9 => h9) rfl dX0_step_1 ?_
    refine lv_tableIn (tgt := 63) hx hb dX0_step_4 (by decide) (by decide) rfl (by decide) ?_
    refine lv_aload_n hx hb dX0_step_63 rfl (lv_at hl 0 rfl) ?_
    refine kCallI (As := []) (wc := [(q, .inr (0, [.ref ro, .ref pa, .int (nI 4), .int ds, .int en, .int pl, .int (nI h), .int gv, .int rp, .int mk, .int la])), (ro, .inr (1, [.ref rb, .int sz])), (rb, .inl (cI, 64, .inl g))]) (wr := [(pa, .inl (cI, 32, .inl pf))]) (ws' := [(q, .inr (0, [.ref ro, .ref pa, .int (nI 4), .int ds, .int en, .int pl, .int (nI h), .int gv, .int ((cThumb en pl rp h g).2.1), .int mk, .int la])), (ro, .inr (1, [.ref rb, .int sz])), (rb, .inl (cI, 64, .inl ((cThumb en pl rp h g).2.2))), (pa, .inl (cI, 32, .inl pf))]) (ci := 0) (C := RX0) ⟨hx, hb, hml, hown, hts⟩ (c_X0_stepThumb l D cI cF cJ q ro pa rb h (nI 4) ds en pl gv rp mk la sz g (by omega)) (cwV 0 hts gX0_step_X0_stepThumb rfl rfl rfl (by decide +kernel) ⟨Nat.le_of_ble_eq_true rfl, Nat.le_of_ble_eq_true rfl⟩) hK hP hD hS hA [0, 1, 2] [3] [1, 2, 3, 0] rfl rfl rfl rfl (by decide) rfl rfl rfl rfl rfl hl.1 (Nat.le_of_ble_eq_true rfl) ⟨Nat.zero_le _, Nat.zero_le _⟩ dX0_step_64 (fun H locs hP hD hS => ?_) rfl
    exact hret _ _ _ _ _ dX0_step_67 rfl hP hD hS
  · have hk : h + 4 ≤ 64 := hk
    refine lv_aload_n hx hb dX0_step_0 rfl (lv_at hl 0 rfl) ?_
    refine va_get (D := D) (ci := 0) (v := .int (nI 5)) (C := RX0) (T := TX0) (N := 11) hx hb hts inX0 hown hK hP 0 rfl rfl 2 (by decide) k_32 (fun _ h9 => h9) rfl dX0_step_1 ?_
    refine lv_tableIn (tgt := 68) hx hb dX0_step_4 (by decide) (by decide) rfl (by decide) ?_
    refine lv_aload_n hx hb dX0_step_68 rfl (lv_at hl 0 rfl) ?_
    refine kCallI (As := []) (wc := [(q, .inr (0, [.ref ro, .ref pa, .int (nI 5), .int ds, .int en, .int pl, .int (nI h), .int gv, .int rp, .int mk, .int la])), (ro, .inr (1, [.ref rb, .int sz])), (rb, .inl (cI, 64, .inl g))]) (wr := [(pa, .inl (cI, 32, .inl pf))]) (ws' := [(q, .inr (0, [.ref ro, .ref pa, .int (nI 5), .int ds, .int en, .int pl, .int (nI h), .int gv, .int ((cPower en pl rp h g).2.1), .int mk, .int la])), (ro, .inr (1, [.ref rb, .int sz])), (rb, .inl (cI, 64, .inl ((cPower en pl rp h g).2.2))), (pa, .inl (cI, 32, .inl pf))]) (ci := 0) (C := RX0) ⟨hx, hb, hml, hown, hts⟩ (c_X0_stepPower l D cI cF cJ q ro pa rb h (nI 5) ds en pl gv rp mk la sz g (by omega)) (cwV 0 hts gX0_step_X0_stepPower rfl rfl rfl (by decide +kernel) ⟨Nat.le_of_ble_eq_true rfl, Nat.le_of_ble_eq_true rfl⟩) hK hP hD hS hA [0, 1, 2] [3] [1, 2, 3, 0] rfl rfl rfl rfl (by decide) rfl rfl rfl rfl rfl hl.1 (Nat.le_of_ble_eq_true rfl) ⟨Nat.zero_le _, Nat.zero_le _⟩ dX0_step_69 (fun H locs hP hD hS => ?_) rfl
    exact hret _ _ _ _ _ dX0_step_72 rfl hP hD hS
  · have hk : h + 4 ≤ 64 := hk
    refine lv_aload_n hx hb dX0_step_0 rfl (lv_at hl 0 rfl) ?_
    refine va_get (D := D) (ci := 0) (v := .int (nI 6)) (C := RX0) (T := TX0) (N := 11) hx hb hts inX0 hown hK hP 0 rfl rfl 2 (by decide) k_32 (fun _ h9 => h9) rfl dX0_step_1 ?_
    refine lv_tableIn (tgt := 73) hx hb dX0_step_4 (by decide) (by decide) rfl (by decide) ?_
    refine lv_aload_n hx hb dX0_step_73 rfl (lv_at hl 0 rfl) ?_
    refine kCallI (As := []) (wc := [(q, .inr (0, [.ref ro, .ref pa, .int (nI 6), .int ds, .int en, .int pl, .int (nI h), .int gv, .int rp, .int mk, .int la])), (ro, .inr (1, [.ref rb, .int sz])), (rb, .inl (cI, 64, .inl g))]) (wr := [(pa, .inl (cI, 32, .inl pf))]) (ws' := [(q, .inr (0, [.ref ro, .ref pa, .int (nI 6), .int ds, .int en, .int pl, .int (nI h), .int gv, .int ((cSparc en pl rp h g).2.1), .int mk, .int la])), (ro, .inr (1, [.ref rb, .int sz])), (rb, .inl (cI, 64, .inl ((cSparc en pl rp h g).2.2))), (pa, .inl (cI, 32, .inl pf))]) (ci := 0) (C := RX0) ⟨hx, hb, hml, hown, hts⟩ (c_X0_stepSparc l D cI cF cJ q ro pa rb h (nI 6) ds en pl gv rp mk la sz g (by omega)) (cwV 0 hts gX0_step_X0_stepSparc rfl rfl rfl (by decide +kernel) ⟨Nat.le_of_ble_eq_true rfl, Nat.le_of_ble_eq_true rfl⟩) hK hP hD hS hA [0, 1, 2] [3] [1, 2, 3, 0] rfl rfl rfl rfl (by decide) rfl rfl rfl rfl rfl hl.1 (Nat.le_of_ble_eq_true rfl) ⟨Nat.zero_le _, Nat.zero_le _⟩ dX0_step_74 (fun H locs hP hD hS => ?_) rfl
    exact hret _ _ _ _ _ dX0_step_77 rfl hP hD hS
  · have hk : h + 8 ≤ 64 := hk
    refine lv_aload_n hx hb dX0_step_0 rfl (lv_at hl 0 rfl) ?_
    refine va_get (D := D) (ci := 0) (v := .int (nI 7)) (C := RX0) (T := TX0) (N := 11) hx hb hts inX0 hown hK hP 0 rfl rfl 2 (by decide) k_32 (fun _ h9 => h9) rfl dX0_step_1 ?_
    refine lv_tableIn (tgt := 78) hx hb dX0_step_4 (by decide) (by decide) rfl (by decide) ?_
    refine lv_aload_n hx hb dX0_step_78 rfl (lv_at hl 0 rfl) ?_
    refine kCallI (As := []) (wc := [(q, .inr (0, [.ref ro, .ref pa, .int (nI 7), .int ds, .int en, .int pl, .int (nI h), .int gv, .int rp, .int mk, .int la])), (ro, .inr (1, [.ref rb, .int sz])), (rb, .inl (cI, 64, .inl g))]) (wr := [(pa, .inl (cI, 32, .inl pf))]) (ws' := [(q, .inr (0, [.ref ro, .ref pa, .int (nI 7), .int ds, .int en, .int pl, .int (nI h), .int gv, .int ((cRisc en pl rp h g).2.1), .int mk, .int la])), (ro, .inr (1, [.ref rb, .int sz])), (rb, .inl (cI, 64, .inl ((cRisc en pl rp h g).2.2))), (pa, .inl (cI, 32, .inl pf))]) (ci := 0) (C := RX0) ⟨hx, hb, hml, hown, hts⟩ (c_X0_stepRisc l D cI cF cJ q ro pa rb h (nI 7) ds en pl gv rp mk la sz g (by omega)) (cwV 0 hts gX0_step_X0_stepRisc rfl rfl rfl (by decide +kernel) ⟨Nat.le_of_ble_eq_true rfl, Nat.le_of_ble_eq_true rfl⟩) hK hP hD hS hA [0, 1, 2] [3] [1, 2, 3, 0] rfl rfl rfl rfl (by decide) rfl rfl rfl rfl rfl hl.1 (Nat.le_of_ble_eq_true rfl) ⟨Nat.zero_le _, Nat.zero_le _⟩ dX0_step_79 (fun H locs hP hD hS => ?_) rfl
    exact hret _ _ _ _ _ dX0_step_82 rfl hP hD hS

set_option maxHeartbeats 4000000 in
set_option maxRecDepth 100000 in
/-- Filter.restart(st, e2) -/
theorem c_X0_restart (l : Launch) (D : va_G) (cI cF cJ : ClassId) (q ro pa rb : Nat) (kd ds en pl he gv rp mk la sz st e2 : Int32) (pf : Nat → Int32) (hz : e2 = 0 ∨ e2 = 1) : kV l yX0_restart wsX0_restart ({ frames := 1, cells := 0, slots := 0, locals := 20 }) D (kTy cI cF cJ) [.ref q, .int st, .int e2] [(q, .inr (0, [.ref ro, .ref pa, .int kd, .int ds, .int en, .int pl, .int he, .int gv, .int rp, .int mk, .int la])), (ro, .inr (1, [.ref rb, .int sz])), (pa, .inl (cI, 32, .inl pf))] [(q, .inr (0, [.ref ro, .ref pa, .int kd, .int ds, .int e2, .int st, .int he, .int 0, .int 0, .int 0, .int (st - 5)])), (ro, .inr (1, [.ref rb, .int 0])), (pa, .inl (cI, 32, .inl (zr pf 32)))] := by
  refine kV_of (cc := cX0_restart) (nL := 4) (own := RX0) (lv := [(0, .ref q), (1, .int st), (2, .int e2)]) (by decide) rfl rfl (Nat.le_of_ble_eq_true rfl) rfl ?_
  intro p e s m args below meth c A ls Q C hA hK hP hD hS hl hret
  obtain ⟨hx, hb, hr, hml, hown, hts, hlocks⟩ := C
  have k_14 := hts (.fieldLink RX0 14 "BranchFilters$Filter" "held" "LBranchFilters$Row;") (by decide +kernel)
  have k_20 := hts (.fieldLink RX0 20 "BranchFilters$Filter" "past" "[I") (by decide +kernel)
  have k_38 := hts (.fieldLink RX0 38 "BranchFilters$Filter" "encoding" "Z") (by decide +kernel)
  have k_42 := hts (.fieldLink RX0 42 "BranchFilters$Filter" "place" "I") (by decide +kernel)
  have k_45 := hts (.fieldLink RX0 45 "BranchFilters$Filter" "given" "I") (by decide +kernel)
  have k_48 := hts (.fieldLink RX0 48 "BranchFilters$Filter" "replaced" "I") (by decide +kernel)
  have k_51 := hts (.fieldLink RX0 51 "BranchFilters$Filter" "mask" "I") (by decide +kernel)
  have k_54 := hts (.fieldLink RX0 54 "BranchFilters$Filter" "last" "I") (by decide +kernel)
  have inX0 : ∀ w ∈ wsX00, w ∈ wsX0_restart := by decide +kernel
  refine lv_aload_n hx hb dX0_restart_0 rfl (lv_at hl 0 rfl) ?_
  refine va_get (D := D) (ci := 0) (v := .ref ro) (C := RX0) (T := TX0) (N := 11) hx hb hts inX0 hown hK hP 0 rfl rfl 0 (by decide) k_14 (fun _ h9 => h9) rfl dX0_restart_1 ?_
  refine kCallV (As := []) (wc := [(ro, .inr (1, [.ref rb, .int sz]))]) (wr := [(q, .inr (0, [.ref ro, .ref pa, .int kd, .int ds, .int en, .int pl, .int he, .int gv, .int rp, .int mk, .int la])), (pa, .inl (cI, 32, .inl pf))]) (ws' := [(q, .inr (0, [.ref ro, .ref pa, .int kd, .int ds, .int en, .int pl, .int he, .int gv, .int rp, .int mk, .int la])), (ro, .inr (1, [.ref rb, .int 0])), (pa, .inl (cI, 32, .inl pf))]) (ci := 1) (C := RX1) ⟨hx, hb, hml, hown, hts⟩ (c_X1_clear l D cI cF cJ ro rb sz ) (cwV 0 hts gX0_restart_X1_clear rfl rfl rfl (by decide +kernel) ⟨Nat.le_of_ble_eq_true rfl, Nat.le_of_ble_eq_true rfl⟩) hK hP hD hS hA [1] [0, 2] [0, 2, 1] rfl rfl rfl rfl (by decide) rfl rfl rfl rfl rfl hl.1 (Nat.le_of_ble_eq_true rfl) ⟨Nat.zero_le _, Nat.zero_le _⟩ dX0_restart_4 (fun H locs hP hD hS => ?_) rfl
  refine lv_iconst (v := 0) hx hb dX0_restart_7 (by decide) ?_
  refine lv_istore_n (lv' := [(3, .int 0), (0, .ref q), (1, .int st), (2, .int e2)]) hx hb dX0_restart_8 rfl hl (by decide) rfl (fun ls hl => ?_)
  have loop : ∀ (K : Nat) (j : Nat) (hj : j + K = 32) (H : Heap) (locs : List Loc) (ls : Array Slot), va_P D vwCl [(q, .inr (0, [.ref ro, .ref pa, .int kd, .int ds, .int en, .int pl, .int he, .int gv, .int rp, .int mk, .int la])), (ro, .inr (1, [.ref rb, .int 0])), (pa, .inl (cI, 32, .inl (zr pf j)))] H → va_D A [(q, .inr (0, [.ref ro, .ref pa, .int kd, .int ds, .int en, .int pl, .int he, .int gv, .int rp, .int mk, .int la])), (ro, .inr (1, [.ref rb, .int 0])), (pa, .inl (cI, 32, .inl (zr pf j)))] → va_S A s.heap H locs → lv_has ls 4 [(0, .ref q), (1, .int st), (2, .int e2), (3, .int (nI j))] → W p l e ({ frames := 1, cells := 0, slots := 0, locals := 20 }) s m args below meth c H locs 0 0 Q (F0 m 9 ls []) := by
    intro K
    induction K with
    | zero =>
      intro j hj H locs ls hP hD hS hl
      obtain rfl : j = 32 := by omega
      refine lv_iload_n hx hb dX0_restart_9 rfl (lv_at hl 3 rfl) ?_
      refine lv_bipush (v := 32) hx hb dX0_restart_10 (by decide) ?_
      refine lv_icmp_ge (tgt := 28) hx hb dX0_restart_12 (by decide) (fun c_1 => ?_) (fun c_1 => ?_)
      · refine lv_aload_n hx hb dX0_restart_28 rfl (lv_at hl 0 rfl) ?_
        refine lv_iload_n hx hb dX0_restart_29 rfl (lv_at hl 2 rfl) ?_
        refine kPut (D := D) (ci := 0) (v := .int e2) (ty := .boolean) (C := RX0) (T := TX0) (N := 11) (ws' := [(q, .inr (0, [.ref ro, .ref pa, .int kd, .int ds, .int e2, .int pl, .int he, .int gv, .int rp, .int mk, .int la])), (ro, .inr (1, [.ref rb, .int 0])), (pa, .inl (cI, 32, .inl (zr pf 32)))]) hx hb hts inX0 tyX0 tyX0_ok nmX0 hown hK hP hD hS 0 rfl rfl 4 (by decide) k_38 rfl (by decide +kernel) (kZn hz) (kZf hz) (Nat.le_of_ble_eq_true rfl) rfl dX0_restart_30 (fun H locs hP hD hS => ?_)
        refine lv_aload_n hx hb dX0_restart_33 rfl (lv_at hl 0 rfl) ?_
        refine lv_iload_n hx hb dX0_restart_34 rfl (lv_at hl 1 rfl) ?_
        refine kPut (D := D) (ci := 0) (v := .int st) (ty := .int) (C := RX0) (T := TX0) (N := 11) (ws' := [(q, .inr (0, [.ref ro, .ref pa, .int kd, .int ds, .int e2, .int st, .int he, .int gv, .int rp, .int mk, .int la])), (ro, .inr (1, [.ref rb, .int 0])), (pa, .inl (cI, 32, .inl (zr pf 32)))]) hx hb hts inX0 tyX0 tyX0_ok nmX0 hown hK hP hD hS 0 rfl rfl 5 (by decide) k_42 rfl (by decide +kernel) (rfl) (by first | rfl | decide) (Nat.le_of_ble_eq_true rfl) rfl dX0_restart_35 (fun H locs hP hD hS => ?_)
        refine lv_aload_n hx hb dX0_restart_38 rfl (lv_at hl 0 rfl) ?_
        refine lv_iconst (v := 0) hx hb dX0_restart_39 (by decide) ?_
        refine kPut (D := D) (ci := 0) (v := .int 0) (ty := .int) (C := RX0) (T := TX0) (N := 11) (ws' := [(q, .inr (0, [.ref ro, .ref pa, .int kd, .int ds, .int e2, .int st, .int he, .int 0, .int rp, .int mk, .int la])), (ro, .inr (1, [.ref rb, .int 0])), (pa, .inl (cI, 32, .inl (zr pf 32)))]) hx hb hts inX0 tyX0 tyX0_ok nmX0 hown hK hP hD hS 0 rfl rfl 7 (by decide) k_45 rfl (by decide +kernel) (rfl) (by first | rfl | decide) (Nat.le_of_ble_eq_true rfl) rfl dX0_restart_40 (fun H locs hP hD hS => ?_)
        refine lv_aload_n hx hb dX0_restart_43 rfl (lv_at hl 0 rfl) ?_
        refine lv_iconst (v := 0) hx hb dX0_restart_44 (by decide) ?_
        refine kPut (D := D) (ci := 0) (v := .int 0) (ty := .int) (C := RX0) (T := TX0) (N := 11) (ws' := [(q, .inr (0, [.ref ro, .ref pa, .int kd, .int ds, .int e2, .int st, .int he, .int 0, .int 0, .int mk, .int la])), (ro, .inr (1, [.ref rb, .int 0])), (pa, .inl (cI, 32, .inl (zr pf 32)))]) hx hb hts inX0 tyX0 tyX0_ok nmX0 hown hK hP hD hS 0 rfl rfl 8 (by decide) k_48 rfl (by decide +kernel) (rfl) (by first | rfl | decide) (Nat.le_of_ble_eq_true rfl) rfl dX0_restart_45 (fun H locs hP hD hS => ?_)
        refine lv_aload_n hx hb dX0_restart_48 rfl (lv_at hl 0 rfl) ?_
        refine lv_iconst (v := 0) hx hb dX0_restart_49 (by decide) ?_
        refine kPut (D := D) (ci := 0) (v := .int 0) (ty := .int) (C := RX0) (T := TX0) (N := 11) (ws' := [(q, .inr (0, [.ref ro, .ref pa, .int kd, .int ds, .int e2, .int st, .int he, .int 0, .int 0, .int 0, .int la])), (ro, .inr (1, [.ref rb, .int 0])), (pa, .inl (cI, 32, .inl (zr pf 32)))]) hx hb hts inX0 tyX0 tyX0_ok nmX0 hown hK hP hD hS 0 rfl rfl 9 (by decide) k_51 rfl (by decide +kernel) (rfl) (by first | rfl | decide) (Nat.le_of_ble_eq_true rfl) rfl dX0_restart_50 (fun H locs hP hD hS => ?_)
        refine lv_aload_n hx hb dX0_restart_53 rfl (lv_at hl 0 rfl) ?_
        refine lv_iload_n hx hb dX0_restart_54 rfl (lv_at hl 1 rfl) ?_
        refine lv_iconst (v := 5) hx hb dX0_restart_55 (by decide) ?_
        refine lv_isub hx hb dX0_restart_56 ?_
        refine kPut (D := D) (ci := 0) (v := .int (st - 5)) (ty := .int) (C := RX0) (T := TX0) (N := 11) (ws' := [(q, .inr (0, [.ref ro, .ref pa, .int kd, .int ds, .int e2, .int st, .int he, .int 0, .int 0, .int 0, .int (st - 5)])), (ro, .inr (1, [.ref rb, .int 0])), (pa, .inl (cI, 32, .inl (zr pf 32)))]) hx hb hts inX0 tyX0 tyX0_ok nmX0 hown hK hP hD hS 0 rfl rfl 10 (by decide) k_54 rfl (by decide +kernel) (rfl) (by first | rfl | decide) (Nat.le_of_ble_eq_true rfl) rfl dX0_restart_57 (fun H locs hP hD hS => ?_)
        exact hret _ _ _ _ dX0_restart_60 (hP) (hD) hS
      · exact absurd ((kLe (a := 32) (b := 32) rfl rfl (by omega) (by omega)).mpr (by omega)) c_1
    | succ K ih =>
      intro j hj H locs ls hP hD hS hl
      refine lv_iload_n hx hb dX0_restart_9 rfl (lv_at hl 3 rfl) ?_
      refine lv_bipush (v := 32) hx hb dX0_restart_10 (by decide) ?_
      refine lv_icmp_ge (tgt := 28) hx hb dX0_restart_12 (by decide) (fun c_2 => ?_) (fun c_2 => ?_)
      · exact absurd ((kLe (a := 32) (b := j) rfl rfl (by omega) (by omega)).mp c_2) (by omega)
      · refine lv_aload_n hx hb dX0_restart_15 rfl (lv_at hl 0 rfl) ?_
        refine va_get (D := D) (ci := 0) (v := .ref pa) (C := RX0) (T := TX0) (N := 11) hx hb hts inX0 hown hK hP 0 rfl rfl 1 (by decide) k_20 (fun _ h9 => h9) rfl dX0_restart_16 ?_
        refine lv_iload_n hx hb dX0_restart_19 rfl (lv_at hl 3 rfl) ?_
        refine lv_iconst (v := 0) hx hb dX0_restart_20 (by decide) ?_
        refine kIast (k := j) (ws' := [(q, .inr (0, [.ref ro, .ref pa, .int kd, .int ds, .int en, .int pl, .int he, .int gv, .int rp, .int mk, .int la])), (ro, .inr (1, [.ref rb, .int 0])), (pa, .inl (cI, 32, .inl (upd (zr pf j) j 0)))]) hx hb hK hP hD hS 2 0 rfl rfl (rfl) (by omega) (by omega) rfl dX0_restart_21 (fun H locs hP hD hS => ?_)
        refine lv_iinc (v := nI (j + 1)) (lv' := [(3, .int (nI (j + 1))), (0, .ref q), (1, .int st), (2, .int e2)]) hx hb dX0_restart_22 hl (k := 3) rfl (nI_1 _) (by decide) rfl (fun ls hl => ?_)
        refine lv_goto (tgt := 9) hx hb dX0_restart_25 (by decide) ?_
        exact ih (j + 1) (by omega) _ _ _ hP hD hS (lv_sub hl [1, 2, 3, 0] rfl)
  exact loop 32 0 (by omega) _ _ _ hP hD hS (lv_sub hl [1, 2, 3, 0] rfl)

set_option maxHeartbeats 4000000 in
set_option maxRecDepth 100000 in
/-- Filter.giveRest(w) -/
theorem c_X0_giveRest (l : Launch) (D : va_G) (cI cF cJ : ClassId) (q ro pa rb w wb n k : Nat) (kd ds en pl he gv rp mk la : Int32) (g f : Nat → Int32) (h1 : n ≤ 64) (h2 : k + n ≤ 64) : kV l yX0_giveRest wsX0_giveRest ({ frames := 2, cells := 0, slots := 0, locals := 82 }) D (kTy cI cF cJ) [.ref q, .ref w] [(q, .inr (0, [.ref ro, .ref pa, .int kd, .int ds, .int en, .int pl, .int he, .int gv, .int rp, .int mk, .int la])), (ro, .inr (1, [.ref rb, .int (nI n)])), (rb, .inl (cI, 64, .inl g)), (w, .inr (1, [.ref wb, .int (nI k)])), (wb, .inl (cI, 64, .inl f))] [(q, .inr (0, [.ref ro, .ref pa, .int kd, .int ds, .int en, .int (pl + nI n), .int he, .int (gv + nI n), .int rp, .int mk, .int la])), (ro, .inr (1, [.ref rb, .int (nI (n - n))])), (rb, .inl (cI, 64, .inl (va_cpy g g n 0 (n - n)))), (w, .inr (1, [.ref wb, .int (nI (k + n))])), (wb, .inl (cI, 64, .inl (va_cpy g f 0 k n)))] := by
  refine kV_of (cc := cX0_giveRest) (nL := 3) (own := RX0) (lv := [(0, .ref q), (1, .ref w)]) (by decide) rfl rfl (Nat.le_of_ble_eq_true rfl) rfl ?_
  intro p e s m args below meth c A ls Q C hA hK hP hD hS hl hret
  obtain ⟨hx, hb, hr, hml, hown, hts, hlocks⟩ := C
  have k_14 := hts (.fieldLink RX0 14 "BranchFilters$Filter" "held" "LBranchFilters$Row;") (by decide +kernel)
  have k_42 := hts (.fieldLink RX0 42 "BranchFilters$Filter" "place" "I") (by decide +kernel)
  have k_45 := hts (.fieldLink RX0 45 "BranchFilters$Filter" "given" "I") (by decide +kernel)
  have inX0 : ∀ w ∈ wsX00, w ∈ wsX0_giveRest := by decide +kernel
  refine lv_aload_n hx hb dX0_giveRest_0 rfl (lv_at hl 0 rfl) ?_
  refine va_get (D := D) (ci := 0) (v := .ref ro) (C := RX0) (T := TX0) (N := 11) hx hb hts inX0 hown hK hP 0 rfl rfl 0 (by decide) k_14 (fun _ h9 => h9) rfl dX0_giveRest_1 ?_
  refine kCallI (As := []) (wc := [(ro, .inr (1, [.ref rb, .int (nI n)]))]) (wr := [(q, .inr (0, [.ref ro, .ref pa, .int kd, .int ds, .int en, .int pl, .int he, .int gv, .int rp, .int mk, .int la])), (rb, .inl (cI, 64, .inl g)), (w, .inr (1, [.ref wb, .int (nI k)])), (wb, .inl (cI, 64, .inl f))]) (ws' := [(q, .inr (0, [.ref ro, .ref pa, .int kd, .int ds, .int en, .int pl, .int he, .int gv, .int rp, .int mk, .int la])), (ro, .inr (1, [.ref rb, .int (nI n)])), (rb, .inl (cI, 64, .inl g)), (w, .inr (1, [.ref wb, .int (nI k)])), (wb, .inl (cI, 64, .inl f))]) (ci := 1) (C := RX1) ⟨hx, hb, hml, hown, hts⟩ (c_X1_size l D cI cF cJ ro rb (nI n) ) (cwV 0 hts gX0_giveRest_X1_size rfl rfl rfl (by decide +kernel) ⟨Nat.le_of_ble_eq_true rfl, Nat.le_of_ble_eq_true rfl⟩) hK hP hD hS hA [1] [0, 2, 3, 4] [0, 4, 1, 2, 3] rfl rfl rfl rfl (by decide) rfl rfl rfl rfl rfl hl.1 (Nat.le_of_ble_eq_true rfl) ⟨Nat.zero_le _, Nat.zero_le _⟩ dX0_giveRest_4 (fun H locs hP hD hS => ?_) rfl
  refine lv_istore_n (lv' := [(2, .int (nI n)), (0, .ref q), (1, .ref w)]) hx hb dX0_giveRest_7 rfl hl (by decide) rfl (fun ls hl => ?_)
  refine lv_aload_n hx hb dX0_giveRest_8 rfl (lv_at hl 1 rfl) ?_
  refine lv_dup hx hb dX0_giveRest_9 rfl ?_
  refine va_get (D := D) (ci := 0) (v := .int pl) (C := RX0) (T := TX0) (N := 11) hx hb hts inX0 hown hK hP 0 rfl rfl 5 (by decide) k_42 (fun _ h9 => h9) rfl dX0_giveRest_10 ?_
  refine lv_iload_n hx hb dX0_giveRest_13 rfl (lv_at hl 0 rfl) ?_
  refine lv_iadd hx hb dX0_giveRest_14 ?_
  refine kPut (D := D) (ci := 0) (v := .int (pl + (nI n))) (ty := .int) (C := RX0) (T := TX0) (N := 11) (ws' := [(q, .inr (0, [.ref ro, .ref pa, .int kd, .int ds, .int en, .int (pl + (nI n)), .int he, .int gv, .int rp, .int mk, .int la])), (ro, .inr (1, [.ref rb, .int (nI n)])), (rb, .inl (cI, 64, .inl g)), (w, .inr (1, [.ref wb, .int (nI k)])), (wb, .inl (cI, 64, .inl f))]) hx hb hts inX0 tyX0 tyX0_ok nmX0 hown hK hP hD hS 0 rfl rfl 5 (by decide) k_42 rfl (by decide +kernel) (rfl) (by first | rfl | decide) (Nat.le_of_ble_eq_true rfl) rfl dX0_giveRest_15 (fun H locs hP hD hS => ?_)
  refine lv_aload_n hx hb dX0_giveRest_18 rfl (lv_at hl 1 rfl) ?_
  refine lv_dup hx hb dX0_giveRest_19 rfl ?_
  refine va_get (D := D) (ci := 0) (v := .int gv) (C := RX0) (T := TX0) (N := 11) hx hb hts inX0 hown hK hP 0 rfl rfl 7 (by decide) k_45 (fun _ h9 => h9) rfl dX0_giveRest_20 ?_
  refine lv_iload_n hx hb dX0_giveRest_23 rfl (lv_at hl 0 rfl) ?_
  refine lv_iadd hx hb dX0_giveRest_24 ?_
  refine kPut (D := D) (ci := 0) (v := .int (gv + (nI n))) (ty := .int) (C := RX0) (T := TX0) (N := 11) (ws' := [(q, .inr (0, [.ref ro, .ref pa, .int kd, .int ds, .int en, .int (pl + (nI n)), .int he, .int (gv + (nI n)), .int rp, .int mk, .int la])), (ro, .inr (1, [.ref rb, .int (nI n)])), (rb, .inl (cI, 64, .inl g)), (w, .inr (1, [.ref wb, .int (nI k)])), (wb, .inl (cI, 64, .inl f))]) hx hb hts inX0 tyX0 tyX0_ok nmX0 hown hK hP hD hS 0 rfl rfl 7 (by decide) k_45 rfl (by decide +kernel) (rfl) (by first | rfl | decide) (Nat.le_of_ble_eq_true rfl) rfl dX0_giveRest_25 (fun H locs hP hD hS => ?_)
  refine lv_aload_n hx hb dX0_giveRest_28 rfl (lv_at hl 1 rfl) ?_
  refine va_get (D := D) (ci := 0) (v := .ref ro) (C := RX0) (T := TX0) (N := 11) hx hb hts inX0 hown hK hP 0 rfl rfl 0 (by decide) k_14 (fun _ h9 => h9) rfl dX0_giveRest_29 ?_
  refine lv_aload_n hx hb dX0_giveRest_32 rfl (lv_at hl 2 rfl) ?_
  refine lv_iload_n hx hb dX0_giveRest_33 rfl (lv_at hl 0 rfl) ?_
  refine kCallV (As := [.ref w, .int (nI n)]) (wc := [(ro, .inr (1, [.ref rb, .int (nI n)])), (rb, .inl (cI, 64, .inl g)), (w, .inr (1, [.ref wb, .int (nI k)])), (wb, .inl (cI, 64, .inl f))]) (wr := [(q, .inr (0, [.ref ro, .ref pa, .int kd, .int ds, .int en, .int (pl + (nI n)), .int he, .int (gv + (nI n)), .int rp, .int mk, .int la]))]) (ws' := [(q, .inr (0, [.ref ro, .ref pa, .int kd, .int ds, .int en, .int (pl + (nI n)), .int he, .int (gv + (nI n)), .int rp, .int mk, .int la])), (ro, .inr (1, [.ref rb, .int (nI (n - n))])), (rb, .inl (cI, 64, .inl (va_cpy g g n 0 (n - n)))), (w, .inr (1, [.ref wb, .int (nI (k + n))])), (wb, .inl (cI, 64, .inl (va_cpy g f 0 k n)))]) (ci := 1) (C := RX1) ⟨hx, hb, hml, hown, hts⟩ (c_X1_moveTo l D cI cF cJ ro rb w wb 64 64 n k n g f (by omega) (by omega) (by omega) (by omega) (by omega)) (cwV 2 hts gX0_giveRest_X1_moveTo rfl rfl rfl (by decide +kernel) ⟨Nat.le_of_ble_eq_true rfl, Nat.le_of_ble_eq_true rfl⟩) hK hP hD hS hA [1, 2, 3, 4] [0] [0, 1, 2, 3, 4] rfl rfl rfl rfl (by decide) rfl rfl rfl rfl rfl hl.1 (Nat.le_of_ble_eq_true rfl) ⟨Nat.zero_le _, Nat.zero_le _⟩ dX0_giveRest_34 (fun H locs hP hD hS => ?_) rfl
  exact hret _ _ _ _ dX0_giveRest_37 (hP) (hD) hS
