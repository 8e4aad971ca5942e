/-! BranchFilters$Row: its methods but the constructor -/

/-- four bytes from k on, the lowest first; the highest first -/
def cLo (f : Nat → Int32) (k : Nat) : Int32 := (((f k ||| f (k + 1) <<< ((8 : Int32) &&& 31)) ||| f (k + 2) <<< ((16 : Int32) &&& 31)) ||| f (k + 3) <<< ((24 : Int32) &&& 31))
def cHi (f : Nat → Int32) (k : Nat) : Int32 := (((f k <<< ((24 : Int32) &&& 31) ||| f (k + 1) <<< ((16 : Int32) &&& 31)) ||| f (k + 2) <<< ((8 : Int32) &&& 31)) ||| f (k + 3))
def cSetLo (f : Nat → Int32) (k : Nat) (v : Int32) : Nat → Int32 := upd (upd (upd (upd f k (v &&& 255)) (k + 1) ((kU v 8) &&& 255)) (k + 2) ((kU v 16) &&& 255)) (k + 3) (kU v 24)
def cSetHi (f : Nat → Int32) (k : Nat) (v : Int32) : Nat → Int32 := upd (upd (upd (upd f k (kU v 24)) (k + 1) ((kU v 16) &&& 255)) (k + 2) ((kU v 8) &&& 255)) (k + 3) (v &&& 255)

set_option maxHeartbeats 4000000 in
set_option maxRecDepth 100000 in
/-- Row.size() -/
theorem c_X1_size (l : Launch) (D : va_G) (cI cF cJ : ClassId) (r rb : Nat) (sz : Int32)  : kI l yX1_size wsX1_size ({ frames := 0, cells := 0, slots := 0, locals := 0 }) D (kTy cI cF cJ) [.ref r] [(r, .inr (1, [.ref rb, .int sz]))] [(r, .inr (1, [.ref rb, .int sz]))] sz := by
  refine kI_of (cc := cX1_size) (nL := 1) (ty := .int) (own := RX1) (lv := [(0, .ref r)]) (by decide) rfl rfl (Nat.le_of_ble_eq_true rfl) rfl (rfl) ?_
  intro p e s m args below meth c A ls Q C hA hK hP hD hS hl hret
  obtain ⟨hx, hb, hr, hml, hown, hts, hlocks⟩ := C
  have k_13 := hts (.fieldLink RX1 13 "BranchFilters$Row" "size" "I") (by decide +kernel)
  have inX1 : ∀ w ∈ wsX10, w ∈ wsX1_size := by decide +kernel
  refine lv_aload_n hx hb dX1_size_0 rfl (lv_at hl 0 rfl) ?_
  refine va_get (D := D) (ci := 1) (v := .int sz) (C := RX1) (T := TX1) (N := 2) hx hb hts inX1 hown hK hP 0 rfl rfl 1 (by decide) k_13 (fun _ h9 => h9) rfl dX1_size_1 ?_
  exact hret _ _ _ _ _ dX1_size_4 (rfl) (hP) (hD) hS

set_option maxHeartbeats 4000000 in
set_option maxRecDepth 100000 in
/-- Row.at(k) -/
theorem c_X1_at (l : Launch) (D : va_G) (cI cF cJ : ClassId) (r rb n k : Nat) (f : Nat → Int32) (sz : Int32) (hk : k < n) (hn : n < 2 ^ 31) : kI l yX1_at wsX1_at ({ frames := 0, cells := 0, slots := 0, locals := 0 }) D (kTy cI cF cJ) [.ref r, .int (nI k)] [(r, .inr (1, [.ref rb, .int sz])), (rb, .inl (cI, n, .inl f))] [(r, .inr (1, [.ref rb, .int sz])), (rb, .inl (cI, n, .inl f))] (f k) := by
  refine kI_of (cc := cX1_at) (nL := 2) (ty := .int) (own := RX1) (lv := [(0, .ref r), (1, .int (nI k))]) (by decide) rfl rfl (Nat.le_of_ble_eq_true rfl) rfl (rfl) ?_
  intro p e s m args below meth c A ls Q C hA hK hP hD hS hl hret
  obtain ⟨hx, hb, hr, hml, hown, hts, hlocks⟩ := C
  have k_7 := hts (.fieldLink RX1 7 "BranchFilters$Row" "bytes" "[I") (by decide +kernel)
  have inX1 : ∀ w ∈ wsX10, w ∈ wsX1_at := by decide +kernel
  refine lv_aload_n hx hb dX1_at_0 rfl (lv_at hl 0 rfl) ?_
  refine va_get (D := D) (ci := 1) (v := .ref rb) (C := RX1) (T := TX1) (N := 2) hx hb hts inX1 hown hK hP 0 rfl rfl 0 (by decide) k_7 (fun _ h9 => h9) rfl dX1_at_1 ?_
  refine lv_iload_n hx hb dX1_at_4 rfl (lv_at hl 1 rfl) ?_
  refine kIald (k := k) hx hb hK hP 1 0 rfl rfl (rfl) (by omega) (by omega) dX1_at_5 ?_
  exact hret _ _ _ _ _ dX1_at_6 (rfl) (hP) (hD) hS

set_option maxHeartbeats 4000000 in
set_option maxRecDepth 100000 in
/-- Row.set(k, v) -/
theorem c_X1_set (l : Launch) (D : va_G) (cI cF cJ : ClassId) (r rb n k : Nat) (f : Nat → Int32) (sz : Int32) (v : Int32) (hk : k < n) (hn : n < 2 ^ 31) : kV l yX1_set wsX1_set ({ frames := 0, cells := 0, slots := 0, locals := 0 }) D (kTy cI cF cJ) [.ref r, .int (nI k), .int v] [(r, .inr (1, [.ref rb, .int sz])), (rb, .inl (cI, n, .inl f))] [(r, .inr (1, [.ref rb, .int sz])), (rb, .inl (cI, n, .inl (upd f k (v &&& 255))))] := by
  refine kV_of (cc := cX1_set) (nL := 3) (own := RX1) (lv := [(0, .ref r), (1, .int (nI k)), (2, .int v)]) (by decide) rfl rfl (Nat.le_of_ble_eq_true rfl) rfl ?_
  intro p e s m args below meth c A ls Q C hA hK hP hD hS hl hret
  obtain ⟨hx, hb, hr, hml, hown, hts, hlocks⟩ := C
  have k_7 := hts (.fieldLink RX1 7 "BranchFilters$Row" "bytes" "[I") (by decide +kernel)
  have inX1 : ∀ w ∈ wsX10, w ∈ wsX1_set := by decide +kernel
  refine lv_aload_n hx hb dX1_set_0 rfl (lv_at hl 0 rfl) ?_
  refine va_get (D := D) (ci := 1) (v := .ref rb) (C := RX1) (T := TX1) (N := 2) hx hb hts inX1 hown hK hP 0 rfl rfl 0 (by decide) k_7 (fun _ h9 => h9) rfl dX1_set_1 ?_
  refine lv_iload_n hx hb dX1_set_4 rfl (lv_at hl 1 rfl) ?_
  refine lv_iload_n hx hb dX1_set_5 rfl (lv_at hl 2 rfl) ?_
  refine lv_sipush (v := 255) hx hb dX1_set_6 (by decide) ?_
  refine lv_iand hx hb dX1_set_9 ?_
  refine kIast (k := k) (ws' := [(r, .inr (1, [.ref rb, .int sz])), (rb, .inl (cI, n, .inl (upd f k (v &&& 255))))]) hx hb hK hP hD hS 1 0 rfl rfl (rfl) (by omega) (by omega) rfl dX1_set_10 (fun H locs hP hD hS => ?_)
  exact hret _ _ _ _ dX1_set_11 (hP) (hD) hS

set_option maxHeartbeats 4000000 in
set_option maxRecDepth 100000 in
/-- Row.add(v) -/
theorem c_X1_add (l : Launch) (D : va_G) (cI cF cJ : ClassId) (r rb n k : Nat) (f : Nat → Int32) (v : Int32) (hk : k < n) (hn : n < 2 ^ 31) : kV l yX1_add wsX1_add ({ frames := 0, cells := 0, slots := 0, locals := 0 }) D (kTy cI cF cJ) [.ref r, .int v] [(r, .inr (1, [.ref rb, .int (nI k)])), (rb, .inl (cI, n, .inl f))] [(r, .inr (1, [.ref rb, .int (nI (k + 1))])), (rb, .inl (cI, n, .inl (upd f k (v &&& 255))))] := by
  refine kV_of (cc := cX1_add) (nL := 2) (own := RX1) (lv := [(0, .ref r), (1, .int v)]) (by decide) rfl rfl (Nat.le_of_ble_eq_true rfl) rfl ?_
  intro p e s m args below meth c A ls Q C hA hK hP hD hS hl hret
  obtain ⟨hx, hb, hr, hml, hown, hts, hlocks⟩ := C
  have k_13 := hts (.fieldLink RX1 13 "BranchFilters$Row" "size" "I") (by decide +kernel)
  have k_7 := hts (.fieldLink RX1 7 "BranchFilters$Row" "bytes" "[I") (by decide +kernel)
  have inX1 : ∀ w ∈ wsX10, w ∈ wsX1_add := by decide +kernel
  refine lv_aload_n hx hb dX1_add_0 rfl (lv_at hl 0 rfl) ?_
  refine va_get (D := D) (ci := 1) (v := .ref rb) (C := RX1) (T := TX1) (N := 2) hx hb hts inX1 hown hK hP 0 rfl rfl 0 (by decide) k_7 (fun _ h9 => h9) rfl dX1_add_1 ?_
  refine lv_aload_n hx hb dX1_add_4 rfl (lv_at hl 0 rfl) ?_
  refine va_get (D := D) (ci := 1) (v := .int (nI k)) (C := RX1) (T := TX1) (N := 2) hx hb hts inX1 hown hK hP 0 rfl rfl 1 (by decide) k_13 (fun _ h9 => h9) rfl dX1_add_5 ?_
  refine lv_iload_n hx hb dX1_add_8 rfl (lv_at hl 1 rfl) ?_
  refine lv_sipush (v := 255) hx hb dX1_add_9 (by decide) ?_
  refine lv_iand hx hb dX1_add_12 ?_
  refine kIast (k := k) (ws' := [(r, .inr (1, [.ref rb, .int (nI k)])), (rb, .inl (cI, n, .inl (upd f k (v &&& 255))))]) hx hb hK hP hD hS 1 0 rfl rfl (rfl) (by omega) (by omega) rfl dX1_add_13 (fun H locs hP hD hS => ?_)
  refine lv_aload_n hx hb dX1_add_14 rfl (lv_at hl 0 rfl) ?_
  refine lv_dup hx hb dX1_add_15 rfl ?_
  refine va_get (D := D) (ci := 1) (v := .int (nI k)) (C := RX1) (T := TX1) (N := 2) hx hb hts inX1 hown hK hP 0 rfl rfl 1 (by decide) k_13 (fun _ h9 => h9) rfl dX1_add_16 ?_
  refine lv_iconst (v := 1) hx hb dX1_add_19 (by decide) ?_
  refine lv_iadd hx hb dX1_add_20 ?_
  refine kTop (y := nI (k + 1)) (nI_add _ 1) ?_
  refine kPut (D := D) (ci := 1) (v := .int (nI (k + 1))) (ty := .int) (C := RX1) (T := TX1) (N := 2) (ws' := [(r, .inr (1, [.ref rb, .int (nI (k + 1))])), (rb, .inl (cI, n, .inl (upd f k (v &&& 255))))]) hx hb hts inX1 tyX1 tyX1_ok nmX1 hown hK hP hD hS 0 rfl rfl 1 (by decide) k_13 rfl (by decide +kernel) (rfl) (by first | rfl | decide) (Nat.le_of_ble_eq_true rfl) rfl dX1_add_21 (fun H locs hP hD hS => ?_)
  exact hret _ _ _ _ dX1_add_24 (hP) (hD) hS

set_option maxHeartbeats 4000000 in
set_option maxRecDepth 100000 in
/-- Row.clear() -/
theorem c_X1_clear (l : Launch) (D : va_G) (cI cF cJ : ClassId) (r rb : Nat) (sz : Int32)  : kV l yX1_clear wsX1_clear ({ frames := 0, cells := 0, slots := 0, locals := 0 }) D (kTy cI cF cJ) [.ref r] [(r, .inr (1, [.ref rb, .int sz]))] [(r, .inr (1, [.ref rb, .int 0]))] := by
  refine kV_of (cc := cX1_clear) (nL := 1) (own := RX1) (lv := [(0, .ref r)]) (by decide) rfl rfl (Nat.le_of_ble_eq_true rfl) rfl ?_
  intro p e s m args below meth c A ls Q C hA hK hP hD hS hl hret
  obtain ⟨hx, hb, hr, hml, hown, hts, hlocks⟩ := C
  have k_13 := hts (.fieldLink RX1 13 "BranchFilters$Row" "size" "I") (by decide +kernel)
  have inX1 : ∀ w ∈ wsX10, w ∈ wsX1_clear := by decide +kernel
  refine lv_aload_n hx hb dX1_clear_0 rfl (lv_at hl 0 rfl) ?_
  refine lv_iconst (v := 0) hx hb dX1_clear_1 (by decide) ?_
  refine kPut (D := D) (ci := 1) (v := .int 0) (ty := .int) (C := RX1) (T := TX1) (N := 2) (ws' := [(r, .inr (1, [.ref rb, .int 0]))]) hx hb hts inX1 tyX1 tyX1_ok nmX1 hown hK hP hD hS 0 rfl rfl 1 (by decide) k_13 rfl (by decide +kernel) (rfl) (by first | rfl | decide) (Nat.le_of_ble_eq_true rfl) rfl dX1_clear_2 (fun H locs hP hD hS => ?_)
  exact hret _ _ _ _ dX1_clear_5 (hP) (hD) hS

set_option maxHeartbeats 4000000 in
set_option maxRecDepth 100000 in
/-- Row.lowestFirst(k) -/
theorem c_X1_lowestFirst (l : Launch) (D : va_G) (cI cF cJ : ClassId) (r rb n k : Nat) (f : Nat → Int32) (sz : Int32) (hk : k + 3 < n) (hn : n < 2 ^ 31) : kI l yX1_lowestFirst wsX1_lowestFirst ({ frames := 0, cells := 0, slots := 0, locals := 0 }) D (kTy cI cF cJ) [.ref r, .int (nI k)] [(r, .inr (1, [.ref rb, .int sz])), (rb, .inl (cI, n, .inl f))] [(r, .inr (1, [.ref rb, .int sz])), (rb, .inl (cI, n, .inl f))] (cLo f k) := by
  refine kI_of (cc := cX1_lowestFirst) (nL := 2) (ty := .int) (own := RX1) (lv := [(0, .ref r), (1, .int (nI k))]) (by decide) rfl rfl (Nat.le_of_ble_eq_true rfl) rfl (rfl) ?_
  intro p e s m args below meth c A ls Q C hA hK hP hD hS hl hret
  obtain ⟨hx, hb, hr, hml, hown, hts, hlocks⟩ := C
  have k_7 := hts (.fieldLink RX1 7 "BranchFilters$Row" "bytes" "[I") (by decide +kernel)
  have inX1 : ∀ w ∈ wsX10, w ∈ wsX1_lowestFirst := by decide +kernel
  refine lv_aload_n hx hb dX1_lowestFirst_0 rfl (lv_at hl 0 rfl) ?_
  refine va_get (D := D) (ci := 1) (v := .ref rb) (C := RX1) (T := TX1) (N := 2) hx hb hts inX1 hown hK hP 0 rfl rfl 0 (by decide) k_7 (fun _ h9 => h9) rfl dX1_lowestFirst_1 ?_
  refine lv_iload_n hx hb dX1_lowestFirst_4 rfl (lv_at hl 1 rfl) ?_
  refine kIald (k := k) hx hb hK hP 1 0 rfl rfl (rfl) (by omega) (by omega) dX1_lowestFirst_5 ?_
  refine lv_aload_n hx hb dX1_lowestFirst_6 rfl (lv_at hl 0 rfl) ?_
  refine va_get (D := D) (ci := 1) (v := .ref rb) (C := RX1) (T := TX1) (N := 2) hx hb hts inX1 hown hK hP 0 rfl rfl 0 (by decide) k_7 (fun _ h9 => h9) rfl dX1_lowestFirst_7 ?_
  refine lv_iload_n hx hb dX1_lowestFirst_10 rfl (lv_at hl 1 rfl) ?_
  refine lv_iconst (v := 1) hx hb dX1_lowestFirst_11 (by decide) ?_
  refine lv_iadd hx hb dX1_lowestFirst_12 ?_
  refine kTop (y := nI (k + 1)) (nI_add _ 1) ?_
  refine kIald (k := (k + 1)) hx hb hK hP 1 0 rfl rfl (rfl) (by omega) (by omega) dX1_lowestFirst_13 ?_
  refine lv_bipush (v := 8) hx hb dX1_lowestFirst_14 (by decide) ?_
  refine lv_ishl hx hb dX1_lowestFirst_16 ?_
  refine lv_ior hx hb dX1_lowestFirst_17 ?_
  refine lv_aload_n hx hb dX1_lowestFirst_18 rfl (lv_at hl 0 rfl) ?_
  refine va_get (D := D) (ci := 1) (v := .ref rb) (C := RX1) (T := TX1) (N := 2) hx hb hts inX1 hown hK hP 0 rfl rfl 0 (by decide) k_7 (fun _ h9 => h9) rfl dX1_lowestFirst_19 ?_
  refine lv_iload_n hx hb dX1_lowestFirst_22 rfl (lv_at hl 1 rfl) ?_
  refine lv_iconst (v := 2) hx hb dX1_lowestFirst_23 (by decide) ?_
  refine lv_iadd hx hb dX1_lowestFirst_24 ?_
  refine kTop (y := nI (k + 2)) (nI_add _ 2) ?_
  refine kIald (k := (k + 2)) hx hb hK hP 1 0 rfl rfl (rfl) (by omega) (by omega) dX1_lowestFirst_25 ?_
  refine lv_bipush (v := 16) hx hb dX1_lowestFirst_26 (by decide) ?_
  refine lv_ishl hx hb dX1_lowestFirst_28 ?_
  refine lv_ior hx hb dX1_lowestFirst_29 ?_
  refine lv_aload_n hx hb dX1_lowestFirst_30 rfl (lv_at hl 0 rfl) ?_
  refine va_get (D := D) (ci := 1) (v := .ref rb) (C := RX1) (T := TX1) (N := 2) hx hb hts inX1 hown hK hP 0 rfl rfl 0 (by decide) k_7 (fun _ h9 => h9) rfl dX1_lowestFirst_31 ?_
  refine lv_iload_n hx hb dX1_lowestFirst_34 rfl (lv_at hl 1 rfl) ?_
  refine lv_iconst (v := 3) hx hb dX1_lowestFirst_35 (by decide) ?_
  refine lv_iadd hx hb dX1_lowestFirst_36 ?_
  refine kTop (y := nI (k + 3)) (nI_add _ 3) ?_
  refine kIald (k := (k + 3)) hx hb hK hP 1 0 rfl rfl (rfl) (by omega) (by omega) dX1_lowestFirst_37 ?_
  refine lv_bipush (v := 24) hx hb dX1_lowestFirst_38 (by decide) ?_
  refine lv_ishl hx hb dX1_lowestFirst_40 ?_
  refine lv_ior hx hb dX1_lowestFirst_41 ?_
  exact hret _ _ _ _ _ dX1_lowestFirst_42 (rfl) (hP) (hD) hS

set_option maxHeartbeats 4000000 in
set_option maxRecDepth 100000 in
/-- Row.highestFirst(k) -/
theorem c_X1_highestFirst (l : Launch) (D : va_G) (cI cF cJ : ClassId) (r rb n k : Nat) (f : Nat → Int32) (sz : Int32) (hk : k + 3 < n) (hn : n < 2 ^ 31) : kI l yX1_highestFirst wsX1_highestFirst ({ frames := 0, cells := 0, slots := 0, locals := 0 }) D (kTy cI cF cJ) [.ref r, .int (nI k)] [(r, .inr (1, [.ref rb, .int sz])), (rb, .inl (cI, n, .inl f))] [(r, .inr (1, [.ref rb, .int sz])), (rb, .inl (cI, n, .inl f))] (cHi f k) := by
  refine kI_of (cc := cX1_highestFirst) (nL := 2) (ty := .int) (own := RX1) (lv := [(0, .ref r), (1, .int (nI k))]) (by decide) rfl rfl (Nat.le_of_ble_eq_true rfl) rfl (rfl) ?_
  intro p e s m args below meth c A ls Q C hA hK hP hD hS hl hret
  obtain ⟨hx, hb, hr, hml, hown, hts, hlocks⟩ := C
  have k_7 := hts (.fieldLink RX1 7 "BranchFilters$Row" "bytes" "[I") (by decide +kernel)
  have inX1 : ∀ w ∈ wsX10, w ∈ wsX1_highestFirst := by decide +kernel
  refine lv_aload_n hx hb dX1_highestFirst_0 rfl (lv_at hl 0 rfl) ?_
  refine va_get (D := D) (ci := 1) (v := .ref rb) (C := RX1) (T := TX1) (N := 2) hx hb hts inX1 hown hK hP 0 rfl rfl 0 (by decide) k_7 (fun _ h9 => h9) rfl dX1_highestFirst_1 ?_
  refine lv_iload_n hx hb dX1_highestFirst_4 rfl (lv_at hl 1 rfl) ?_
  refine kIald (k := k) hx hb hK hP 1 0 rfl rfl (rfl) (by omega) (by omega) dX1_highestFirst_5 ?_
  refine lv_bipush (v := 24) hx hb dX1_highestFirst_6 (by decide) ?_
  refine lv_ishl hx hb dX1_highestFirst_8 ?_
  refine lv_aload_n hx hb dX1_highestFirst_9 rfl (lv_at hl 0 rfl) ?_
  refine va_get (D := D) (ci := 1) (v := .ref rb) (C := RX1) (T := TX1) (N := 2) hx hb hts inX1 hown hK hP 0 rfl rfl 0 (by decide) k_7 (fun _ h9 => h9) rfl dX1_highestFirst_10 ?_
  refine lv_iload_n hx hb dX1_highestFirst_13 rfl (lv_at hl 1 rfl) ?_
  refine lv_iconst (v := 1) hx hb dX1_highestFirst_14 (by decide) ?_
  refine lv_iadd hx hb dX1_highestFirst_15 ?_
  refine kTop (y := nI (k + 1)) (nI_add _ 1) ?_
  refine kIald (k := (k + 1)) hx hb hK hP 1 0 rfl rfl (rfl) (by omega) (by omega) dX1_highestFirst_16 ?_
  refine lv_bipush (v := 16) hx hb dX1_highestFirst_17 (by decide) ?_
  refine lv_ishl hx hb dX1_highestFirst_19 ?_
  refine lv_ior hx hb dX1_highestFirst_20 ?_
  refine lv_aload_n hx hb dX1_highestFirst_21 rfl (lv_at hl 0 rfl) ?_
  refine va_get (D := D) (ci := 1) (v := .ref rb) (C := RX1) (T := TX1) (N := 2) hx hb hts inX1 hown hK hP 0 rfl rfl 0 (by decide) k_7 (fun _ h9 => h9) rfl dX1_highestFirst_22 ?_
  refine lv_iload_n hx hb dX1_highestFirst_25 rfl (lv_at hl 1 rfl) ?_
  refine lv_iconst (v := 2) hx hb dX1_highestFirst_26 (by decide) ?_
  refine lv_iadd hx hb dX1_highestFirst_27 ?_
  refine kTop (y := nI (k + 2)) (nI_add _ 2) ?_
  refine kIald (k := (k + 2)) hx hb hK hP 1 0 rfl rfl (rfl) (by omega) (by omega) dX1_highestFirst_28 ?_
  refine lv_bipush (v := 8) hx hb dX1_highestFirst_29 (by decide) ?_
  refine lv_ishl hx hb dX1_highestFirst_31 ?_
  refine lv_ior hx hb dX1_highestFirst_32 ?_
  refine lv_aload_n hx hb dX1_highestFirst_33 rfl (lv_at hl 0 rfl) ?_
  refine va_get (D := D) (ci := 1) (v := .ref rb) (C := RX1) (T := TX1) (N := 2) hx hb hts inX1 hown hK hP 0 rfl rfl 0 (by decide) k_7 (fun _ h9 => h9) rfl dX1_highestFirst_34 ?_
  refine lv_iload_n hx hb dX1_highestFirst_37 rfl (lv_at hl 1 rfl) ?_
  refine lv_iconst (v := 3) hx hb dX1_highestFirst_38 (by decide) ?_
  refine lv_iadd hx hb dX1_highestFirst_39 ?_
  refine kTop (y := nI (k + 3)) (nI_add _ 3) ?_
  refine kIald (k := (k + 3)) hx hb hK hP 1 0 rfl rfl (rfl) (by omega) (by omega) dX1_highestFirst_40 ?_
  refine lv_ior hx hb dX1_highestFirst_41 ?_
  exact hret _ _ _ _ _ dX1_highestFirst_42 (rfl) (hP) (hD) hS

set_option maxHeartbeats 4000000 in
set_option maxRecDepth 100000 in
/-- Row.setLowestFirst(k, v) -/
theorem c_X1_setLowestFirst (l : Launch) (D : va_G) (cI cF cJ : ClassId) (r rb n k : Nat) (f : Nat → Int32) (sz : Int32) (v : Int32) (hk : k + 3 < n) (hn : n < 2 ^ 31) : kV l yX1_setLowestFirst wsX1_setLowestFirst ({ frames := 0, cells := 0, slots := 0, locals := 0 }) D (kTy cI cF cJ) [.ref r, .int (nI k), .int v] [(r, .inr (1, [.ref rb, .int sz])), (rb, .inl (cI, n, .inl f))] [(r, .inr (1, [.ref rb, .int sz])), (rb, .inl (cI, n, .inl (cSetLo f k v)))] := by
  refine kV_of (cc := cX1_setLowestFirst) (nL := 3) (own := RX1) (lv := [(0, .ref r), (1, .int (nI k)), (2, .int v)]) (by decide) rfl rfl (Nat.le_of_ble_eq_true rfl) rfl ?_
  intro p e s m args below meth c A ls Q C hA hK hP hD hS hl hret
  obtain ⟨hx, hb, hr, hml, hown, hts, hlocks⟩ := C
  have k_7 := hts (.fieldLink RX1 7 "BranchFilters$Row" "bytes" "[I") (by decide +kernel)
  have inX1 : ∀ w ∈ wsX10, w ∈ wsX1_setLowestFirst := by decide +kernel
  refine lv_aload_n hx hb dX1_setLowestFirst_0 rfl (lv_at hl 0 rfl) ?_
  refine va_get (D := D) (ci := 1) (v := .ref rb) (C := RX1) (T := TX1) (N := 2) hx hb hts inX1 hown hK hP 0 rfl rfl 0 (by decide) k_7 (fun _ h9 => h9) rfl dX1_setLowestFirst_1 ?_
  refine lv_iload_n hx hb dX1_setLowestFirst_4 rfl (lv_at hl 1 rfl) ?_
  refine lv_iload_n hx hb dX1_setLowestFirst_5 rfl (lv_at hl 2 rfl) ?_
  refine lv_sipush (v := 255) hx hb dX1_setLowestFirst_6 (by decide) ?_
  refine lv_iand hx hb dX1_setLowestFirst_9 ?_
  refine kIast (k := k) (ws' := [(r, .inr (1, [.ref rb, .int sz])), (rb, .inl (cI, n, .inl (upd f k (v &&& 255))))]) hx hb hK hP hD hS 1 0 rfl rfl (rfl) (by omega) (by omega) rfl dX1_setLowestFirst_10 (fun H locs hP hD hS => ?_)
  refine lv_aload_n hx hb dX1_setLowestFirst_11 rfl (lv_at hl 0 rfl) ?_
  refine va_get (D := D) (ci := 1) (v := .ref rb) (C := RX1) (T := TX1) (N := 2) hx hb hts inX1 hown hK hP 0 rfl rfl 0 (by decide) k_7 (fun _ h9 => h9) rfl dX1_setLowestFirst_12 ?_
  refine lv_iload_n hx hb dX1_setLowestFirst_15 rfl (lv_at hl 1 rfl) ?_
  refine lv_iconst (v := 1) hx hb dX1_setLowestFirst_16 (by decide) ?_
  refine lv_iadd hx hb dX1_setLowestFirst_17 ?_
  refine kTop (y := nI (k + 1)) (nI_add _ 1) ?_
  refine lv_iload_n hx hb dX1_setLowestFirst_18 rfl (lv_at hl 2 rfl) ?_
  refine lv_bipush (v := 8) hx hb dX1_setLowestFirst_19 (by decide) ?_
  refine lv_iushr (v := (kU v 8)) hx hb dX1_setLowestFirst_21 rfl ?_
  refine lv_sipush (v := 255) hx hb dX1_setLowestFirst_22 (by decide) ?_
  refine lv_iand hx hb dX1_setLowestFirst_25 ?_
  refine kIast (k := (k + 1)) (ws' := [(r, .inr (1, [.ref rb, .int sz])), (rb, .inl (cI, n, .inl (upd (upd f k (v &&& 255)) (k + 1) ((kU v 8) &&& 255))))]) hx hb hK hP hD hS 1 0 rfl rfl (rfl) (by omega) (by omega) rfl dX1_setLowestFirst_26 (fun H locs hP hD hS => ?_)
  refine lv_aload_n hx hb dX1_setLowestFirst_27 rfl (lv_at hl 0 rfl) ?_
  refine va_get (D := D) (ci := 1) (v := .ref rb) (C := RX1) (T := TX1) (N := 2) hx hb hts inX1 hown hK hP 0 rfl rfl 0 (by decide) k_7 (fun _ h9 => h9) rfl dX1_setLowestFirst_28 ?_
  refine lv_iload_n hx hb dX1_setLowestFirst_31 rfl (lv_at hl 1 rfl) ?_
  refine lv_iconst (v := 2) hx hb dX1_setLowestFirst_32 (by decide) ?_
  refine lv_iadd hx hb dX1_setLowestFirst_33 ?_
  refine kTop (y := nI (k + 2)) (nI_add _ 2) ?_
  refine lv_iload_n hx hb dX1_setLowestFirst_34 rfl (lv_at hl 2 rfl) ?_
  refine lv_bipush (v := 16) hx hb dX1_setLowestFirst_35 (by decide) ?_
  refine lv_iushr (v := (kU v 16)) hx hb dX1_setLowestFirst_37 rfl ?_
  refine lv_sipush (v := 255) hx hb dX1_setLowestFirst_38 (by decide) ?_
  refine lv_iand hx hb dX1_setLowestFirst_41 ?_
  refine kIast (k := (k + 2)) (ws' := [(r, .inr (1, [.ref rb, .int sz])), (rb, .inl (cI, n, .inl (upd (upd (upd f k (v &&& 255)) (k + 1) ((kU v 8) &&& 255)) (k + 2) ((kU v 16) &&& 255))))]) hx hb hK hP hD hS 1 0 rfl rfl (rfl) (by omega) (by omega) rfl dX1_setLowestFirst_42 (fun H locs hP hD hS => ?_)
  refine lv_aload_n hx hb dX1_setLowestFirst_43 rfl (lv_at hl 0 rfl) ?_
  refine va_get (D := D) (ci := 1) (v := .ref rb) (C := RX1) (T := TX1) (N := 2) hx hb hts inX1 hown hK hP 0 rfl rfl 0 (by decide) k_7 (fun _ h9 => h9) rfl dX1_setLowestFirst_44 ?_
  refine lv_iload_n hx hb dX1_setLowestFirst_47 rfl (lv_at hl 1 rfl) ?_
  refine lv_iconst (v := 3) hx hb dX1_setLowestFirst_48 (by decide) ?_
  refine lv_iadd hx hb dX1_setLowestFirst_49 ?_
  refine kTop (y := nI (k + 3)) (nI_add _ 3) ?_
  refine lv_iload_n hx hb dX1_setLowestFirst_50 rfl (lv_at hl 2 rfl) ?_
  refine lv_bipush (v := 24) hx hb dX1_setLowestFirst_51 (by decide) ?_
  refine lv_iushr (v := (kU v 24)) hx hb dX1_setLowestFirst_53 rfl ?_
  refine kIast (k := (k + 3)) (ws' := [(r, .inr (1, [.ref rb, .int sz])), (rb, .inl (cI, n, .inl (upd (upd (upd (upd f k (v &&& 255)) (k + 1) ((kU v 8) &&& 255)) (k + 2) ((kU v 16) &&& 255)) (k + 3) (kU v 24))))]) hx hb hK hP hD hS 1 0 rfl rfl (rfl) (by omega) (by omega) rfl dX1_setLowestFirst_54 (fun H locs hP hD hS => ?_)
  exact hret _ _ _ _ dX1_setLowestFirst_55 (hP) (hD) hS

set_option maxHeartbeats 4000000 in
set_option maxRecDepth 100000 in
/-- Row.setHighestFirst(k, v) -/
theorem c_X1_setHighestFirst (l : Launch) (D : va_G) (cI cF cJ : ClassId) (r rb n k : Nat) (f : Nat → Int32) (sz : Int32) (v : Int32) (hk : k + 3 < n) (hn : n < 2 ^ 31) : kV l yX1_setHighestFirst wsX1_setHighestFirst ({ frames := 0, cells := 0, slots := 0, locals := 0 }) D (kTy cI cF cJ) [.ref r, .int (nI k), .int v] [(r, .inr (1, [.ref rb, .int sz])), (rb, .inl (cI, n, .inl f))] [(r, .inr (1, [.ref rb, .int sz])), (rb, .inl (cI, n, .inl (cSetHi f k v)))] := by
  refine kV_of (cc := cX1_setHighestFirst) (nL := 3) (own := RX1) (lv := [(0, .ref r), (1, .int (nI k)), (2, .int v)]) (by decide) rfl rfl (Nat.le_of_ble_eq_true rfl) rfl ?_
  intro p e s m args below meth c A ls Q C hA hK hP hD hS hl hret
  obtain ⟨hx, hb, hr, hml, hown, hts, hlocks⟩ := C
  have k_7 := hts (.fieldLink RX1 7 "BranchFilters$Row" "bytes" "[I") (by decide +kernel)
  have inX1 : ∀ w ∈ wsX10, w ∈ wsX1_setHighestFirst := by decide +kernel
  refine lv_aload_n hx hb dX1_setHighestFirst_0 rfl (lv_at hl 0 rfl) ?_
  refine va_get (D := D) (ci := 1) (v := .ref rb) (C := RX1) (T := TX1) (N := 2) hx hb hts inX1 hown hK hP 0 rfl rfl 0 (by decide) k_7 (fun _ h9 => h9) rfl dX1_setHighestFirst_1 ?_
  refine lv_iload_n hx hb dX1_setHighestFirst_4 rfl (lv_at hl 1 rfl) ?_
  refine lv_iload_n hx hb dX1_setHighestFirst_5 rfl (lv_at hl 2 rfl) ?_
  refine lv_bipush (v := 24) hx hb dX1_setHighestFirst_6 (by decide) ?_
  refine lv_iushr (v := (kU v 24)) hx hb dX1_setHighestFirst_8 rfl ?_
  refine kIast (k := k) (ws' := [(r, .inr (1, [.ref rb, .int sz])), (rb, .inl (cI, n, .inl (upd f k (kU v 24))))]) hx hb hK hP hD hS 1 0 rfl rfl (rfl) (by omega) (by omega) rfl dX1_setHighestFirst_9 (fun H locs hP hD hS => ?_)
  refine lv_aload_n hx hb dX1_setHighestFirst_10 rfl (lv_at hl 0 rfl) ?_
  refine va_get (D := D) (ci := 1) (v := .ref rb) (C := RX1) (T := TX1) (N := 2) hx hb hts inX1 hown hK hP 0 rfl rfl 0 (by decide) k_7 (fun _ h9 => h9) rfl dX1_setHighestFirst_11 ?_
  refine lv_iload_n hx hb dX1_setHighestFirst_14 rfl (lv_at hl 1 rfl) ?_
  refine lv_iconst (v := 1) hx hb dX1_setHighestFirst_15 (by decide) ?_
  refine lv_iadd hx hb dX1_setHighestFirst_16 ?_
  refine kTop (y := nI (k + 1)) (nI_add _ 1) ?_
  refine lv_iload_n hx hb dX1_setHighestFirst_17 rfl (lv_at hl 2 rfl) ?_
  refine lv_bipush (v := 16) hx hb dX1_setHighestFirst_18 (by decide) ?_
  refine lv_iushr (v := (kU v 16)) hx hb dX1_setHighestFirst_20 rfl ?_
  refine lv_sipush (v := 255) hx hb dX1_setHighestFirst_21 (by decide) ?_
  refine lv_iand hx hb dX1_setHighestFirst_24 ?_
  refine kIast (k := (k + 1)) (ws' := [(r, .inr (1, [.ref rb, .int sz])), (rb, .inl (cI, n, .inl (upd (upd f k (kU v 24)) (k + 1) ((kU v 16) &&& 255))))]) hx hb hK hP hD hS 1 0 rfl rfl (rfl) (by omega) (by omega) rfl dX1_setHighestFirst_25 (fun H locs hP hD hS => ?_)
  refine lv_aload_n hx hb dX1_setHighestFirst_26 rfl (lv_at hl 0 rfl) ?_
  refine va_get (D := D) (ci := 1) (v := .ref rb) (C := RX1) (T := TX1) (N := 2) hx hb hts inX1 hown hK hP 0 rfl rfl 0 (by decide) k_7 (fun _ h9 => h9) rfl dX1_setHighestFirst_27 ?_
  refine lv_iload_n hx hb dX1_setHighestFirst_30 rfl (lv_at hl 1 rfl) ?_
  refine lv_iconst (v := 2) hx hb dX1_setHighestFirst_31 (by decide) ?_
  refine lv_iadd hx hb dX1_setHighestFirst_32 ?_
  refine kTop (y := nI (k + 2)) (nI_add _ 2) ?_
  refine lv_iload_n hx hb dX1_setHighestFirst_33 rfl (lv_at hl 2 rfl) ?_
  refine lv_bipush (v := 8) hx hb dX1_setHighestFirst_34 (by decide) ?_
  refine lv_iushr (v := (kU v 8)) hx hb dX1_setHighestFirst_36 rfl ?_
  refine lv_sipush (v := 255) hx hb dX1_setHighestFirst_37 (by decide) ?_
  refine lv_iand hx hb dX1_setHighestFirst_40 ?_
  refine kIast (k := (k + 2)) (ws' := [(r, .inr (1, [.ref rb, .int sz])), (rb, .inl (cI, n, .inl (upd (upd (upd f k (kU v 24)) (k + 1) ((kU v 16) &&& 255)) (k + 2) ((kU v 8) &&& 255))))]) hx hb hK hP hD hS 1 0 rfl rfl (rfl) (by omega) (by omega) rfl dX1_setHighestFirst_41 (fun H locs hP hD hS => ?_)
  refine lv_aload_n hx hb dX1_setHighestFirst_42 rfl (lv_at hl 0 rfl) ?_
  refine va_get (D := D) (ci := 1) (v := .ref rb) (C := RX1) (T := TX1) (N := 2) hx hb hts inX1 hown hK hP 0 rfl rfl 0 (by decide) k_7 (fun _ h9 => h9) rfl dX1_setHighestFirst_43 ?_
  refine lv_iload_n hx hb dX1_setHighestFirst_46 rfl (lv_at hl 1 rfl) ?_
  refine lv_iconst (v := 3) hx hb dX1_setHighestFirst_47 (by decide) ?_
  refine lv_iadd hx hb dX1_setHighestFirst_48 ?_
  refine kTop (y := nI (k + 3)) (nI_add _ 3) ?_
  refine lv_iload_n hx hb dX1_setHighestFirst_49 rfl (lv_at hl 2 rfl) ?_
  refine lv_sipush (v := 255) hx hb dX1_setHighestFirst_50 (by decide) ?_
  refine lv_iand hx hb dX1_setHighestFirst_53 ?_
  refine kIast (k := (k + 3)) (ws' := [(r, .inr (1, [.ref rb, .int sz])), (rb, .inl (cI, n, .inl (upd (upd (upd (upd f k (kU v 24)) (k + 1) ((kU v 16) &&& 255)) (k + 2) ((kU v 8) &&& 255)) (k + 3) (v &&& 255))))]) hx hb hK hP hD hS 1 0 rfl rfl (rfl) (by omega) (by omega) rfl dX1_setHighestFirst_54 (fun H locs hP hD hS => ?_)
  exact hret _ _ _ _ dX1_setHighestFirst_55 (hP) (hD) hS

set_option maxHeartbeats 4000000 in
set_option maxRecDepth 100000 in
/-- Row.moveTo(o, k) -/
theorem c_X1_moveTo (l : Launch) (D : va_G) (cI cF cJ : ClassId) (r rb o ob c1 c2 n1 n2 k : Nat) (f g : Nat → Int32) (h1 : k ≤ n1) (h2 : n1 ≤ c1) (h3 : n2 + k ≤ c2) (h4 : c1 < 2 ^ 31) (h5 : c2 < 2 ^ 31) : kV l yX1_moveTo wsX1_moveTo ({ frames := 1, cells := 0, slots := 0, locals := 60 }) D (kTy cI cF cJ) [.ref r, .ref o, .int (nI k)] [(r, .inr (1, [.ref rb, .int (nI n1)])), (rb, .inl (cI, c1, .inl f)), (o, .inr (1, [.ref ob, .int (nI n2)])), (ob, .inl (cI, c2, .inl g))] [(r, .inr (1, [.ref rb, .int (nI (n1 - k))])), (rb, .inl (cI, c1, .inl (va_cpy f f k 0 (n1 - k)))), (o, .inr (1, [.ref ob, .int (nI (n2 + k))])), (ob, .inl (cI, c2, .inl (va_cpy f g 0 n2 k)))] := by
  refine kV_of (cc := cX1_moveTo) (nL := 3) (own := RX1) (lv := [(0, .ref r), (1, .ref o), (2, .int (nI k))]) (by decide) rfl rfl (Nat.le_of_ble_eq_true rfl) rfl ?_
  intro p e s m args below meth c A ls Q C hA hK hP hD hS hl hret
  obtain ⟨hx, hb, hr, hml, hown, hts, hlocks⟩ := C
  have k_13 := hts (.fieldLink RX1 13 "BranchFilters$Row" "size" "I") (by decide +kernel)
  have k_17 := hts (.methodLink RX1 17 arraycopyName) (by decide +kernel)
  have k_7 := hts (.fieldLink RX1 7 "BranchFilters$Row" "bytes" "[I") (by decide +kernel)
  have k_nat := hts (.native arraycopyName) (by decide +kernel)
  have k_stt := hts (.static arraycopyName) (by decide +kernel)
  have k_sys := hts (.initialized "java/lang/System") (by decide +kernel)
  have inX1 : ∀ w ∈ wsX10, w ∈ wsX1_moveTo := by decide +kernel
  refine lv_aload_n hx hb dX1_moveTo_0 rfl (lv_at hl 0 rfl) ?_
  refine va_get (D := D) (ci := 1) (v := .ref rb) (C := RX1) (T := TX1) (N := 2) hx hb hts inX1 hown hK hP 0 rfl rfl 0 (by decide) k_7 (fun _ h9 => h9) rfl dX1_moveTo_1 ?_
  refine lv_iconst (v := 0) hx hb dX1_moveTo_4 (by decide) ?_
  refine lv_aload_n hx hb dX1_moveTo_5 rfl (lv_at hl 1 rfl) ?_
  refine va_get (D := D) (ci := 1) (v := .ref ob) (C := RX1) (T := TX1) (N := 2) hx hb hts inX1 hown hK hP 2 rfl rfl 0 (by decide) k_7 (fun _ h9 => h9) rfl dX1_moveTo_6 ?_
  refine lv_aload_n hx hb dX1_moveTo_9 rfl (lv_at hl 1 rfl) ?_
  refine va_get (D := D) (ci := 1) (v := .int (nI n2)) (C := RX1) (T := TX1) (N := 2) hx hb hts inX1 hown hK hP 2 rfl rfl 1 (by decide) k_13 (fun _ h9 => h9) rfl dX1_moveTo_10 ?_
  refine lv_iload_n hx hb dX1_moveTo_13 rfl (lv_at hl 2 rfl) ?_
  refine kCopy (sp := 0) (dp := n2) (k := k) (ws' := [(r, .inr (1, [.ref rb, .int (nI n1)])), (rb, .inl (cI, c1, .inl f)), (o, .inr (1, [.ref ob, .int (nI n2)])), (ob, .inl (cI, c2, .inl (va_cpy f g 0 n2 k)))]) hx hb (hml.trans hl.1.symm) hown k_17 k_nat k_stt k_sys hK hP hD hS 1 3 0 rfl rfl rfl (by decide) (rfl) (rfl) (by omega) (by omega) (by omega) (by omega) rfl (Nat.le_of_ble_eq_true rfl) (Nat.le_of_ble_eq_true rfl) dX1_moveTo_14 (fun H locs hP hD hS => ?_)
  refine lv_aload_n hx hb dX1_moveTo_17 rfl (lv_at hl 1 rfl) ?_
  refine lv_dup hx hb dX1_moveTo_18 rfl ?_
  refine va_get (D := D) (ci := 1) (v := .int (nI n2)) (C := RX1) (T := TX1) (N := 2) hx hb hts inX1 hown hK hP 2 rfl rfl 1 (by decide) k_13 (fun _ h9 => h9) rfl dX1_moveTo_19 ?_
  refine lv_iload_n hx hb dX1_moveTo_22 rfl (lv_at hl 2 rfl) ?_
  refine lv_iadd hx hb dX1_moveTo_23 ?_
  refine kTop (y := nI (n2 + k)) (nI_add _ _) ?_
  refine kPut (D := D) (ci := 1) (v := .int (nI (n2 + k))) (ty := .int) (C := RX1) (T := TX1) (N := 2) (ws' := [(r, .inr (1, [.ref rb, .int (nI n1)])), (rb, .inl (cI, c1, .inl f)), (o, .inr (1, [.ref ob, .int (nI (n2 + k))])), (ob, .inl (cI, c2, .inl (va_cpy f g 0 n2 k)))]) hx hb hts inX1 tyX1 tyX1_ok nmX1 hown hK hP hD hS 2 rfl rfl 1 (by decide) k_13 rfl (by decide +kernel) (rfl) (by first | rfl | decide) (Nat.le_of_ble_eq_true rfl) rfl dX1_moveTo_24 (fun H locs hP hD hS => ?_)
  refine lv_aload_n hx hb dX1_moveTo_27 rfl (lv_at hl 0 rfl) ?_
  refine lv_dup hx hb dX1_moveTo_28 rfl ?_
  refine va_get (D := D) (ci := 1) (v := .int (nI n1)) (C := RX1) (T := TX1) (N := 2) hx hb hts inX1 hown hK hP 0 rfl rfl 1 (by decide) k_13 (fun _ h9 => h9) rfl dX1_moveTo_29 ?_
  refine lv_iload_n hx hb dX1_moveTo_32 rfl (lv_at hl 2 rfl) ?_
  refine lv_isub hx hb dX1_moveTo_33 ?_
  refine kTop (y := nI (n1 - k)) (pk_sub h1) ?_
  refine kPut (D := D) (ci := 1) (v := .int (nI (n1 - k))) (ty := .int) (C := RX1) (T := TX1) (N := 2) (ws' := [(r, .inr (1, [.ref rb, .int (nI (n1 - k))])), (rb, .inl (cI, c1, .inl f)), (o, .inr (1, [.ref ob, .int (nI (n2 + k))])), (ob, .inl (cI, c2, .inl (va_cpy f g 0 n2 k)))]) hx hb hts inX1 tyX1 tyX1_ok nmX1 hown hK hP hD hS 0 rfl rfl 1 (by decide) k_13 rfl (by decide +kernel) (rfl) (by first | rfl | decide) (Nat.le_of_ble_eq_true rfl) rfl dX1_moveTo_34 (fun H locs hP hD hS => ?_)
  refine lv_aload_n hx hb dX1_moveTo_37 rfl (lv_at hl 0 rfl) ?_
  refine va_get (D := D) (ci := 1) (v := .ref rb) (C := RX1) (T := TX1) (N := 2) hx hb hts inX1 hown hK hP 0 rfl rfl 0 (by decide) k_7 (fun _ h9 => h9) rfl dX1_moveTo_38 ?_
  refine lv_iload_n hx hb dX1_moveTo_41 rfl (lv_at hl 2 rfl) ?_
  refine lv_aload_n hx hb dX1_moveTo_42 rfl (lv_at hl 0 rfl) ?_
  refine va_get (D := D) (ci := 1) (v := .ref rb) (C := RX1) (T := TX1) (N := 2) hx hb hts inX1 hown hK hP 0 rfl rfl 0 (by decide) k_7 (fun _ h9 => h9) rfl dX1_moveTo_43 ?_
  refine lv_iconst (v := 0) hx hb dX1_moveTo_46 (by decide) ?_
  refine lv_aload_n hx hb dX1_moveTo_47 rfl (lv_at hl 0 rfl) ?_
  refine va_get (D := D) (ci := 1) (v := .int (nI (n1 - k))) (C := RX1) (T := TX1) (N := 2) hx hb hts inX1 hown hK hP 0 rfl rfl 1 (by decide) k_13 (fun _ h9 => h9) rfl dX1_moveTo_48 ?_
  refine kCopy (sp := k) (dp := 0) (k := (n1 - k)) (ws' := [(r, .inr (1, [.ref rb, .int (nI (n1 - k))])), (rb, .inl (cI, c1, .inl (va_cpy f f k 0 (n1 - k)))), (o, .inr (1, [.ref ob, .int (nI (n2 + k))])), (ob, .inl (cI, c2, .inl (va_cpy f g 0 n2 k)))]) hx hb (hml.trans hl.1.symm) hown k_17 k_nat k_stt k_sys hK hP hD hS 1 1 0 rfl rfl rfl (rfl) (by decide) (rfl) (by omega) (by omega) (by omega) (by omega) rfl (Nat.le_of_ble_eq_true rfl) (Nat.le_of_ble_eq_true rfl) dX1_moveTo_51 (fun H locs hP hD hS => ?_)
  exact hret _ _ _ _ dX1_moveTo_54 (hP) (hD) hS
