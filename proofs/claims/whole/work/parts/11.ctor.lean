/-! the constructors of the class -/

set_option maxHeartbeats 4000000 in
set_option maxRecDepth 100000 in
/-- Row(N) -/
theorem c_X1_init (l : Launch) (D : va_G) (cI cF cJ : ClassId) (r N : Nat) (hN : N ≤ 100000) : kVN (Nat) l yX1_init wsX1_init ({ frames := 1, cells := 1, slots := N, locals := 20 }) D (kTy cI cF cJ) [.ref r, .int (nI N)] [(r, .inr (1, [.null, .int 0]))] (fun u => [(r, .inr (1, [.ref u, .int 0])), (u, .inl (cI, N, .inl (fun _ => 0)))]) 1 N := by
  refine kVN_of (cc := cX1_init) (nL := 2) (own := RX1) (lv := [(0, .ref r), (1, .int (nI N))]) (by decide) rfl rfl (Nat.le_of_ble_eq_true rfl) rfl ?_
  intro p e s m args below meth c A ls Q C hin hA hK hP hD hS hl hret
  obtain ⟨hx, hb, hr, hml, hown, hts, hlocks⟩ := C
  have k_1 := hts (.methodLink RX1 1 objectInit) (by decide +kernel)
  have k_7 := hts (.fieldLink RX1 7 "BranchFilters$Row" "bytes" "[I") (by decide +kernel)
  have k_ai := hts (.arrayClass .int) (by decide +kernel)
  have k_oc := hts (.code objectInit ⟨#[0xb1]⟩ 1 none) (by decide +kernel)
  have k_oi := hts (.instanceMethod objectInit) (by decide +kernel)
  have inX1 : ∀ w ∈ wsX10, w ∈ wsX1_init := by decide +kernel
  refine lv_aload_n hx hb dX1_init_0 rfl (lv_at hl 0 rfl) ?_
  refine W.objInit hx hb hown k_1 k_oi k_oc rfl (by rw [hml]; exact hl.1) rfl dX1_init_1 (Nat.le_of_ble_eq_true rfl) (Nat.le_of_ble_eq_true rfl) ?_
  refine W.eq (g2 := F0 m 4 ls []) rfl ?_
  refine lv_aload_n hx hb dX1_init_4 rfl (lv_at hl 0 rfl) ?_
  refine lv_iload_n hx hb dX1_init_5 rfl (lv_at hl 1 rfl) ?_
  refine kNewI (k := N) (c2 := 1) (s2 := N) hx hb rfl k_ai hK hP hD hS hA 0 rfl (rfl) (by omega) (by first | rfl | omega) (by first | rfl | omega) (Nat.le_of_ble_eq_true rfl) (by first | exact Nat.le_of_ble_eq_true rfl | exact Nat.le_refl _) dX1_init_6 (fun q_1 H hP hD hS => ?_)
  have hP : va_P D vwCl [(r, .inr (1, [.null, .int 0])), (q_1, .inl (cI, N, .inl (fun _ => 0)))] H := hP
  have hD : va_D A [(r, .inr (1, [.null, .int 0])), (q_1, .inl (cI, N, .inl (fun _ => 0)))] := hD
  refine kPutF (D := D) (ci := 1) (v := .ref q_1) (ty := .array .int) (C := RX1) (T := TX1) (N := 2) (ws' := [(r, .inr (1, [.ref q_1, .int 0])), (q_1, .inl (cI, N, .inl (fun _ => 0)))]) hx hb hts inX1 tyX1 tyX1_ok nmX1 hown hK hP hD hS 0 rfl rfl 0 (by decide) k_7 rfl hin rfl (by decide +kernel) rfl rfl (Nat.le_of_ble_eq_true rfl) rfl dX1_init_8 (fun H locs hP hD hS => ?_)
  refine W.widen (k := 1) (n := N) (by omega) (by omega) ?_
  exact hret (q_1) _ _ _ _ dX1_init_11 hP hD hS

set_option maxHeartbeats 4000000 in
set_option maxRecDepth 100000 in
/-- Filter() -/
theorem c_X0_init (l : Launch) (D : va_G) (cI cF cJ : ClassId) (q : Nat)  : kVN (Nat × Nat × Nat) l yX0_init wsX0_init ({ frames := 2, cells := 3, slots := 98, locals := 43 }) D (kTy cI cF cJ) [.ref q] [(q, .inr (0, [.null, .null, .int 0, .int 0, .int 0, .int 0, .int 0, .int 0, .int 0, .int 0, .int 0]))] (fun u => [(q, .inr (0, [.ref u.1, .ref u.2.2, .int 0, .int 1, .int 1, .int 0, .int 0, .int 0, .int 0, .int 0, .int (0 - 5)])), (u.1, .inr (1, [.ref u.2.1, .int 0])), (u.2.1, .inl (cI, 64, .inl (fun _ => 0))), (u.2.2, .inl (cI, 32, .inl (zr (fun _ => 0) 32)))]) 3 98 := by
  refine kVN_of (cc := cX0_init) (nL := 1) (own := RX0) (lv := [(0, .ref q)]) (by decide) rfl rfl (Nat.le_of_ble_eq_true rfl) rfl ?_
  intro p e s m args below meth c A ls Q C hin hA hK hP hD hS hl hret
  obtain ⟨hx, hb, hr, hml, hown, hts, hlocks⟩ := C
  have k_11 := hts (.methodLink RX0 11 yX1_init) (by decide +kernel)
  have k_14 := hts (.fieldLink RX0 14 "BranchFilters$Filter" "held" "LBranchFilters$Row;") (by decide +kernel)
  have k_20 := hts (.fieldLink RX0 20 "BranchFilters$Filter" "past" "[I") (by decide +kernel)
  have k_24 := hts (.fieldLink RX0 24 "BranchFilters$Filter" "distance" "I") (by decide +kernel)
  have k_3 := hts (.methodLink RX0 3 objectInit) (by decide +kernel)
  have k_9 := hts (.classLink RX0 9 RX1) (by decide +kernel)
  have k_ai := hts (.arrayClass .int) (by decide +kernel)
  have k_bX1 := hts (.instantiable RX1 2) (by decide +kernel)
  have k_iX1_init := hts (.instanceMethod yX1_init) (by decide +kernel)
  have k_nX1 := hts (.initialized RX1) (by decide +kernel)
  have k_nX1_init := hts (.initialized RX1) (by decide +kernel)
  have k_oc := hts (.code objectInit ⟨#[0xb1]⟩ 1 none) (by decide +kernel)
  have k_oi := hts (.instanceMethod objectInit) (by decide +kernel)
  have inX0 : ∀ w ∈ wsX00, w ∈ wsX0_init := by decide +kernel
  have inX1 : ∀ w ∈ wsX10, w ∈ wsX0_init := by decide +kernel
  refine lv_aload_n hx hb dX0_init_0 rfl (lv_at hl 0 rfl) ?_
  refine W.objInit hx hb hown k_3 k_oi k_oc rfl (by rw [hml]; exact hl.1) rfl dX0_init_1 (Nat.le_of_ble_eq_true rfl) (Nat.le_of_ble_eq_true rfl) ?_
  refine W.eq (g2 := F0 m 4 ls []) rfl ?_
  refine lv_aload_n hx hb dX0_init_4 rfl (lv_at hl 0 rfl) ?_
  refine va_new (ci := 1) (fs := [.null, .int 0]) (C := RX1) (T := TX1) (N := 2) hx hb hts inX1 tyX1 tyX1_ok hown k_9 k_bX1 k_nX1 hK hP hD hS hA rfl (fun j hj => by rcases (show j = 0 ∨ j = 1 by omega) with rfl | rfl <;> rfl) (Nat.le_of_ble_eq_true rfl) (Nat.le_of_ble_eq_true rfl) dX0_init_5 (fun q_1 H hP hD hS => ?_)
  refine W.widen (k := 1) (n := 2) (by omega) (by omega) ?_
  have hP : va_P D vwCl [(q, .inr (0, [.null, .null, .int 0, .int 0, .int 0, .int 0, .int 0, .int 0, .int 0, .int 0, .int 0])), (q_1, .inr (1, [.null, .int 0]))] H := hP
  have hD : va_D A [(q, .inr (0, [.null, .null, .int 0, .int 0, .int 0, .int 0, .int 0, .int 0, .int 0, .int 0, .int 0])), (q_1, .inr (1, [.null, .int 0]))] := hD
  refine lv_dup hx hb dX0_init_8 rfl ?_
  refine lv_bipush (v := 64) hx hb dX0_init_9 (by decide) ?_
  refine kCallN (As := [.int 64]) (wc := [(q_1, .inr (1, [.null, .int 0]))]) (wr := [(q, .inr (0, [.null, .null, .int 0, .int 0, .int 0, .int 0, .int 0, .int 0, .int 0, .int 0, .int 0]))]) (wn := fun u => [(q, .inr (0, [.null, .null, .int 0, .int 0, .int 0, .int 0, .int 0, .int 0, .int 0, .int 0, .int 0])), (q_1, .inr (1, [.ref u, .int 0])), (u, .inl (cI, 64, .inl (fun _ => 0)))]) (c2 := 2) (s2 := 66) ⟨hx, hb, hml, hown, hts⟩ (c_X1_init l D cI cF cJ q_1 64 (by omega)) (cwI 1 hts gX0_init_X1_init rfl rfl rfl k_nX1_init k_11 k_iX1_init rfl (by decide +kernel) ⟨Nat.le_of_ble_eq_true rfl, Nat.le_of_ble_eq_true rfl⟩) hK hP hD hS hA [1] [0] [0, 1, 2] rfl rfl rfl rfl (by decide) (fun _ => rfl) rfl rfl hl.1 (Nat.le_of_ble_eq_true rfl) (by rfl) (by rfl) ⟨Nat.le_of_ble_eq_true rfl, Nat.le_of_ble_eq_true rfl⟩ dX0_init_11 (fun u H locs hP hD hS => ?_) rfl
  obtain ⟨rb_2, rfl⟩ : ∃ z, z = u := ⟨_, rfl⟩
  have hP : va_P D vwCl [(q, .inr (0, [.null, .null, .int 0, .int 0, .int 0, .int 0, .int 0, .int 0, .int 0, .int 0, .int 0])), (q_1, .inr (1, [.ref rb_2, .int 0])), (rb_2, .inl (cI, 64, .inl (fun _ => 0)))] H := hP
  have hD : va_D A [(q, .inr (0, [.null, .null, .int 0, .int 0, .int 0, .int 0, .int 0, .int 0, .int 0, .int 0, .int 0])), (q_1, .inr (1, [.ref rb_2, .int 0])), (rb_2, .inl (cI, 64, .inl (fun _ => 0)))] := hD
  refine kPutF (D := D) (ci := 0) (v := .ref q_1) (ty := .object "BranchFilters$Row") (C := RX0) (T := TX0) (N := 11) (ws' := [(q, .inr (0, [.ref q_1, .null, .int 0, .int 0, .int 0, .int 0, .int 0, .int 0, .int 0, .int 0, .int 0])), (q_1, .inr (1, [.ref rb_2, .int 0])), (rb_2, .inl (cI, 64, .inl (fun _ => 0)))]) hx hb hts inX0 tyX0 tyX0_ok nmX0 hown hK hP hD hS 0 rfl rfl 0 (by decide) k_14 rfl hin rfl (by decide +kernel) rfl rfl (Nat.le_of_ble_eq_true rfl) rfl dX0_init_14 (fun H locs hP hD hS => ?_)
  refine lv_aload_n hx hb dX0_init_17 rfl (lv_at hl 0 rfl) ?_
  refine lv_bipush (v := 32) hx hb dX0_init_18 (by decide) ?_
  refine kNewI (k := 32) (c2 := 3) (s2 := 98) hx hb rfl k_ai hK hP hD hS hA 0 rfl (by decide) (by omega) (by first | rfl | omega) (by first | rfl | omega) (Nat.le_of_ble_eq_true rfl) (by first | exact Nat.le_of_ble_eq_true rfl | exact Nat.le_refl _) dX0_init_20 (fun q_3 H hP hD hS => ?_)
  have hP : va_P D vwCl [(q, .inr (0, [.ref q_1, .null, .int 0, .int 0, .int 0, .int 0, .int 0, .int 0, .int 0, .int 0, .int 0])), (q_1, .inr (1, [.ref rb_2, .int 0])), (rb_2, .inl (cI, 64, .inl (fun _ => 0))), (q_3, .inl (cI, 32, .inl (fun _ => 0)))] H := hP
  have hD : va_D A [(q, .inr (0, [.ref q_1, .null, .int 0, .int 0, .int 0, .int 0, .int 0, .int 0, .int 0, .int 0, .int 0])), (q_1, .inr (1, [.ref rb_2, .int 0])), (rb_2, .inl (cI, 64, .inl (fun _ => 0))), (q_3, .inl (cI, 32, .inl (fun _ => 0)))] := hD
  refine kPutF (D := D) (ci := 0) (v := .ref q_3) (ty := .array .int) (C := RX0) (T := TX0) (N := 11) (ws' := [(q, .inr (0, [.ref q_1, .ref q_3, .int 0, .int 0, .int 0, .int 0, .int 0, .int 0, .int 0, .int 0, .int 0])), (q_1, .inr (1, [.ref rb_2, .int 0])), (rb_2, .inl (cI, 64, .inl (fun _ => 0))), (q_3, .inl (cI, 32, .inl (fun _ => 0)))]) hx hb hts inX0 tyX0 tyX0_ok nmX0 hown hK hP hD hS 0 rfl rfl 1 (by decide) k_20 rfl hin rfl (by decide +kernel) rfl rfl (Nat.le_of_ble_eq_true rfl) rfl dX0_init_22 (fun H locs hP hD hS => ?_)
  refine lv_aload_n hx hb dX0_init_25 rfl (lv_at hl 0 rfl) ?_
  refine lv_iconst (v := 1) hx hb dX0_init_26 (by decide) ?_
  refine kPut (D := D) (ci := 0) (v := .int 1) (ty := .int) (C := RX0) (T := TX0) (N := 11) (ws' := [(q, .inr (0, [.ref q_1, .ref q_3, .int 0, .int 1, .int 0, .int 0, .int 0, .int 0, .int 0, .int 0, .int 0])), (q_1, .inr (1, [.ref rb_2, .int 0])), (rb_2, .inl (cI, 64, .inl (fun _ => 0))), (q_3, .inl (cI, 32, .inl (fun _ => 0)))]) hx hb hts inX0 tyX0 tyX0_ok nmX0 hown hK hP hD hS 0 rfl rfl 3 (by decide) k_24 rfl (by decide +kernel) (rfl) (by first | rfl | decide) (Nat.le_of_ble_eq_true rfl) rfl dX0_init_27 (fun H locs hP hD hS => ?_)
  refine lv_aload_n hx hb dX0_init_30 rfl (lv_at hl 0 rfl) ?_
  refine lv_iconst (v := 0) hx hb dX0_init_31 (by decide) ?_
  refine lv_iconst (v := 1) hx hb dX0_init_32 (by decide) ?_
  refine kCallV (As := [.int 0, .int 1]) (wc := [(q, .inr (0, [.ref q_1, .ref q_3, .int 0, .int 1, .int 0, .int 0, .int 0, .int 0, .int 0, .int 0, .int 0])), (q_1, .inr (1, [.ref rb_2, .int 0])), (q_3, .inl (cI, 32, .inl (fun _ => 0)))]) (wr := [(rb_2, .inl (cI, 64, .inl (fun _ => 0)))]) (ws' := [(q, .inr (0, [.ref q_1, .ref q_3, .int 0, .int 1, .int 1, .int 0, .int 0, .int 0, .int 0, .int 0, .int (0 - 5)])), (q_1, .inr (1, [.ref rb_2, .int 0])), (rb_2, .inl (cI, 64, .inl (fun _ => 0))), (q_3, .inl (cI, 32, .inl (zr (fun _ => 0) 32)))]) (ci := 0) (C := RX0) ⟨hx, hb, hml, hown, hts⟩ (c_X0_restart l D cI cF cJ q q_1 q_3 rb_2 0 1 0 0 0 0 0 0 0 0 0 1 (fun _ => 0) (Or.inr rfl)) (cwV 2 hts gX0_init_X0_restart rfl rfl rfl (by decide +kernel) ⟨Nat.le_of_ble_eq_true rfl, Nat.le_of_ble_eq_true rfl⟩) hK hP hD hS hA [0, 1, 3] [2] [1, 2, 0, 3] rfl rfl rfl rfl (by decide) rfl rfl rfl rfl rfl hl.1 (Nat.le_of_ble_eq_true rfl) ⟨Nat.le_of_ble_eq_true rfl, Nat.le_of_ble_eq_true rfl⟩ dX0_init_33 (fun H locs hP hD hS => ?_) rfl
  refine W.widen (k := 3) (n := 98) (by omega) (by omega) ?_
  exact hret (q_1, rb_2, q_3) _ _ _ _ dX0_init_36 hP hD hS
