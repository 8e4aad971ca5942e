/-! BranchFilters$Filter.pass -/

abbrev cRS : Type := Nat × Int32 × Int32 × Int32 × Int32 × (Nat → Int32) × (Nat → Int32)
/-- the state of the steps: here, place, how many put, MASK, LAST, the bytes, the past -/
def cNext (kn : Nat) (en ds : Int32) (s : cRS) : cRS :=
  (s.1 + (cStep kn en s.2.1 ds s.2.2.1 s.2.2.2.1 s.2.2.2.2.1 s.1 s.2.2.2.2.2.1 s.2.2.2.2.2.2).1.toNatClampNeg, s.2.1 + (cStep kn en s.2.1 ds s.2.2.1 s.2.2.2.1 s.2.2.2.2.1 s.1 s.2.2.2.2.2.1 s.2.2.2.2.2.2).1, (cStep kn en s.2.1 ds s.2.2.1 s.2.2.2.1 s.2.2.2.2.1 s.1 s.2.2.2.2.2.1 s.2.2.2.2.2.2).2)
def cRun (kn : Nat) (en ds : Int32) (N : Nat) : Nat → cRS → cRS
  | 0, s => s
  | K + 1, s => if s.1 + cNeed kn ≤ N then cRun kn en ds N K (cNext kn en ds s) else s
theorem cRun_go {kn : Nat} {en ds : Int32} {N K h m : Nat} {p r k l : Int32} {g f : Nat → Int32} (hh : h + cNeed kn ≤ N) (em : (cStep kn en p ds r k l h g f).1 = nI m) (hm : m ≤ 8) :
    cRun kn en ds N (K + 1) (h, p, r, k, l, g, f) = cRun kn en ds N K (h + m, p + nI m, (cStep kn en p ds r k l h g f).2) := by
  have e1 : cNext kn en ds (h, p, r, k, l, g, f) = (h + m, p + nI m, (cStep kn en p ds r k l h g f).2) := by
    show (h + (cStep kn en p ds r k l h g f).1.toNatClampNeg, p + (cStep kn en p ds r k l h g f).1, (cStep kn en p ds r k l h g f).2) = _
    rw [em, nI_clamp (by omega)]
  show (if h + cNeed kn ≤ N then cRun kn en ds N K (cNext kn en ds (h, p, r, k, l, g, f)) else _) = _
  rw [if_pos hh, e1]
theorem cRun_out {kn : Nat} {en ds : Int32} {N K h : Nat} {t : Int32 × Int32 × Int32 × Int32 × (Nat → Int32) × (Nat → Int32)} (hh : ¬ h + cNeed kn ≤ N) : cRun kn en ds N K (h, t) = (h, t) := by
  cases K with
  | zero => rfl
  | succ K => exact if_neg hh
theorem kEnd {N d h : Nat} (hN : N ≤ 64) (hd : d ≤ 8) (hh : h ≤ 64) : (nI N - nI d < nI h) ↔ N < h + d := by
  rw [Int32.lt_iff_toInt_lt, pk_sub_toInt (by omega) (by omega), nI_toInt (by omega)]
  omega

set_option maxHeartbeats 4000000 in
set_option maxRecDepth 100000 in
/-- Filter.pass(w) -/
theorem c_X0_pass (l : Launch) (D : va_G) (cI cF cJ : ClassId) (nd : Nat) (q ro pa rb w wb n k kn : Nat) (ds en pl he gv rp mk la : Int32) (g pf f : Nat → Int32) (hkn : kn < 8) (hN : n + k ≤ 64) : kVG nd l yX0_pass wsX0_pass ({ frames := 4, cells := 0, slots := 0, locals := 93 }) D (kTy cI cF cJ) [.ref q, .ref w] [(q, .inr (0, [.ref ro, .ref pa, .int (nI kn), .int ds, .int en, .int pl, .int he, .int gv, .int rp, .int mk, .int la])), (ro, .inr (1, [.ref rb, .int (nI n)])), (rb, .inl (cI, 64, .inl g)), (pa, .inl (cI, 32, .inl pf)), (w, .inr (1, [.ref wb, .int (nI k)])), (wb, .inl (cI, 64, .inl f))] [(q, .inr (0, [.ref ro, .ref pa, .int (nI kn), .int ds, .int en, .int ((cRun kn en ds (n + k) 64 (0, pl, rp, mk, la, va_cpy f g 0 n k, pf)).2.1), .int (nI (cRun kn en ds (n + k) 64 (0, pl, rp, mk, la, va_cpy f g 0 n k, pf)).1), .int (gv + nI (cRun kn en ds (n + k) 64 (0, pl, rp, mk, la, va_cpy f g 0 n k, pf)).1), .int ((cRun kn en ds (n + k) 64 (0, pl, rp, mk, la, va_cpy f g 0 n k, pf)).2.2.1), .int ((cRun kn en ds (n + k) 64 (0, pl, rp, mk, la, va_cpy f g 0 n k, pf)).2.2.2.1), .int ((cRun kn en ds (n + k) 64 (0, pl, rp, mk, la, va_cpy f g 0 n k, pf)).2.2.2.2.1)])), (ro, .inr (1, [.ref rb, .int (nI (n + k - (cRun kn en ds (n + k) 64 (0, pl, rp, mk, la, va_cpy f g 0 n k, pf)).1))])), (rb, .inl (cI, 64, .inl (va_cpy (cRun kn en ds (n + k) 64 (0, pl, rp, mk, la, va_cpy f g 0 n k, pf)).2.2.2.2.2.1 (cRun kn en ds (n + k) 64 (0, pl, rp, mk, la, va_cpy f g 0 n k, pf)).2.2.2.2.2.1 (cRun kn en ds (n + k) 64 (0, pl, rp, mk, la, va_cpy f g 0 n k, pf)).1 0 (n + k - (cRun kn en ds (n + k) 64 (0, pl, rp, mk, la, va_cpy f g 0 n k, pf)).1)))), (pa, .inl (cI, 32, .inl ((cRun kn en ds (n + k) 64 (0, pl, rp, mk, la, va_cpy f g 0 n k, pf)).2.2.2.2.2.2))), (w, .inr (1, [.ref wb, .int (nI (k - k + (cRun kn en ds (n + k) 64 (0, pl, rp, mk, la, va_cpy f g 0 n k, pf)).1))])), (wb, .inl (cI, 64, .inl (va_cpy (cRun kn en ds (n + k) 64 (0, pl, rp, mk, la, va_cpy f g 0 n k, pf)).2.2.2.2.2.1 (va_cpy f f k 0 (k - k)) 0 (k - k) (cRun kn en ds (n + k) 64 (0, pl, rp, mk, la, va_cpy f g 0 n k, pf)).1)))] := by
  refine kVG_of (cc := cX0_pass) (nL := 5) (own := RX0) (lv := [(0, .ref q), (1, .ref w)]) (by decide) rfl rfl (Nat.le_of_ble_eq_true rfl) rfl ?_
  intro p e s m args below meth c A ls Q C hA hG hK hP hD hS hl hret
  obtain ⟨hx, hb, hr, hml, hown, hts, hlocks⟩ := C
  have k_14 := hts (.fieldLink RX0 14 "BranchFilters$Filter" "held" "LBranchFilters$Row;") (by decide +kernel)
  have k_32 := hts (.fieldLink RX0 32 "BranchFilters$Filter" "kind" "I") (by decide +kernel)
  have k_42 := hts (.fieldLink RX0 42 "BranchFilters$Filter" "place" "I") (by decide +kernel)
  have k_45 := hts (.fieldLink RX0 45 "BranchFilters$Filter" "given" "I") (by decide +kernel)
  have k_65 := hts (.fieldLink RX0 65 "BranchFilters$Filter" "here" "I") (by decide +kernel)
  have k_68 := hts (.fieldLink RX0 68 "BranchFilters$Filter" "NEEDED" "[I") (by decide +kernel)
  have inX0 : ∀ w ∈ wsX00, w ∈ wsX0_pass := by decide +kernel
  refine lv_aload_n hx hb dX0_pass_0 rfl (lv_at hl 1 rfl) ?_
  refine lv_aload_n hx hb dX0_pass_1 rfl (lv_at hl 0 rfl) ?_
  refine va_get (D := D) (ci := 0) (v := .ref ro) (C := RX0) (T := TX0) (N := 11) hx hb hts inX0 hown hK hP 0 rfl rfl 0 (by decide) k_14 (fun _ h9 => h9) rfl dX0_pass_2 ?_
  refine lv_aload_n hx hb dX0_pass_5 rfl (lv_at hl 1 rfl) ?_
  refine kCallI (As := []) (wc := [(w, .inr (1, [.ref wb, .int (nI k)]))]) (wr := [(q, .inr (0, [.ref ro, .ref pa, .int (nI kn), .int ds, .int en, .int pl, .int he, .int gv, .int rp, .int mk, .int la])), (ro, .inr (1, [.ref rb, .int (nI n)])), (rb, .inl (cI, 64, .inl g)), (pa, .inl (cI, 32, .inl pf)), (wb, .inl (cI, 64, .inl f))]) (ws' := [(q, .inr (0, [.ref ro, .ref pa, .int (nI kn), .int ds, .int en, .int pl, .int he, .int gv, .int rp, .int mk, .int la])), (ro, .inr (1, [.ref rb, .int (nI n)])), (rb, .inl (cI, 64, .inl g)), (pa, .inl (cI, 32, .inl pf)), (w, .inr (1, [.ref wb, .int (nI k)])), (wb, .inl (cI, 64, .inl f))]) (ci := 1) (C := RX1) ⟨hx, hb, hml, hown, hts⟩ (c_X1_size l D cI cF cJ w wb (nI k) ) (cwV 0 hts gX0_pass_X1_size rfl rfl rfl (by decide +kernel) ⟨Nat.le_of_ble_eq_true rfl, Nat.le_of_ble_eq_true rfl⟩) hK hP hD hS hA [4] [0, 1, 2, 3, 5] [0, 1, 2, 3, 5, 4] rfl rfl rfl rfl (by decide) rfl rfl rfl rfl rfl hl.1 (Nat.le_of_ble_eq_true rfl) ⟨Nat.zero_le _, Nat.zero_le _⟩ dX0_pass_6 (fun H locs hP hD hS => ?_) rfl
  refine kCallV (As := [.ref ro, .int (nI k)]) (wc := [(w, .inr (1, [.ref wb, .int (nI k)])), (wb, .inl (cI, 64, .inl f)), (ro, .inr (1, [.ref rb, .int (nI n)])), (rb, .inl (cI, 64, .inl g))]) (wr := [(q, .inr (0, [.ref ro, .ref pa, .int (nI kn), .int ds, .int en, .int pl, .int he, .int gv, .int rp, .int mk, .int la])), (pa, .inl (cI, 32, .inl pf))]) (ws' := [(q, .inr (0, [.ref ro, .ref pa, .int (nI kn), .int ds, .int en, .int pl, .int he, .int gv, .int rp, .int mk, .int la])), (ro, .inr (1, [.ref rb, .int (nI (n + k))])), (rb, .inl (cI, 64, .inl (va_cpy f g 0 n k))), (pa, .inl (cI, 32, .inl pf)), (w, .inr (1, [.ref wb, .int (nI (k - k))])), (wb, .inl (cI, 64, .inl (va_cpy f f k 0 (k - k))))]) (ci := 1) (C := RX1) ⟨hx, hb, hml, hown, hts⟩ (c_X1_moveTo l D cI cF cJ w wb ro rb 64 64 k n k f g (by omega) (by omega) (by omega) (by omega) (by omega)) (cwV 2 hts gX0_pass_X1_moveTo rfl rfl rfl (by decide +kernel) ⟨Nat.le_of_ble_eq_true rfl, Nat.le_of_ble_eq_true rfl⟩) hK hP hD hS hA [4, 5, 1, 2] [0, 3] [0, 4, 5, 1, 2, 3] rfl rfl rfl rfl (by decide) rfl rfl rfl rfl rfl hl.1 (Nat.le_of_ble_eq_true rfl) ⟨Nat.zero_le _, Nat.zero_le _⟩ dX0_pass_9 (fun H locs hP hD hS => ?_) rfl
  refine lv_aload_n hx hb dX0_pass_12 rfl (lv_at hl 0 rfl) ?_
  refine lv_iconst (v := 0) hx hb dX0_pass_13 (by decide) ?_
  refine kPut (D := D) (ci := 0) (v := .int 0) (ty := .int) (C := RX0) (T := TX0) (N := 11) (ws' := [(q, .inr (0, [.ref ro, .ref pa, .int (nI kn), .int ds, .int en, .int pl, .int 0, .int gv, .int rp, .int mk, .int la])), (ro, .inr (1, [.ref rb, .int (nI (n + k))])), (rb, .inl (cI, 64, .inl (va_cpy f g 0 n k))), (pa, .inl (cI, 32, .inl pf)), (w, .inr (1, [.ref wb, .int (nI (k - k))])), (wb, .inl (cI, 64, .inl (va_cpy f f k 0 (k - k))))]) hx hb hts inX0 tyX0 tyX0_ok nmX0 hown hK hP hD hS 0 rfl rfl 6 (by decide) k_65 rfl (by decide +kernel) (rfl) (by first | rfl | decide) (Nat.le_of_ble_eq_true rfl) rfl dX0_pass_14 (fun H locs hP hD hS => ?_)
  refine lv_aload_n hx hb dX0_pass_17 rfl (lv_at hl 0 rfl) ?_
  refine va_get (D := D) (ci := 0) (v := .ref ro) (C := RX0) (T := TX0) (N := 11) hx hb hts inX0 hown hK hP 0 rfl rfl 0 (by decide) k_14 (fun _ h9 => h9) rfl dX0_pass_18 ?_
  refine kCallI (As := []) (wc := [(ro, .inr (1, [.ref rb, .int (nI (n + k))]))]) (wr := [(q, .inr (0, [.ref ro, .ref pa, .int (nI kn), .int ds, .int en, .int pl, .int 0, .int gv, .int rp, .int mk, .int la])), (rb, .inl (cI, 64, .inl (va_cpy f g 0 n k))), (pa, .inl (cI, 32, .inl pf)), (w, .inr (1, [.ref wb, .int (nI (k - k))])), (wb, .inl (cI, 64, .inl (va_cpy f f k 0 (k - k))))]) (ws' := [(q, .inr (0, [.ref ro, .ref pa, .int (nI kn), .int ds, .int en, .int pl, .int 0, .int gv, .int rp, .int mk, .int la])), (ro, .inr (1, [.ref rb, .int (nI (n + k))])), (rb, .inl (cI, 64, .inl (va_cpy f g 0 n k))), (pa, .inl (cI, 32, .inl pf)), (w, .inr (1, [.ref wb, .int (nI (k - k))])), (wb, .inl (cI, 64, .inl (va_cpy f f k 0 (k - k))))]) (ci := 1) (C := RX1) ⟨hx, hb, hml, hown, hts⟩ (c_X1_size l D cI cF cJ ro rb (nI (n + k)) ) (cwV 0 hts gX0_pass_X1_size rfl rfl rfl (by decide +kernel) ⟨Nat.le_of_ble_eq_true rfl, Nat.le_of_ble_eq_true rfl⟩) hK hP hD hS hA [1] [0, 2, 3, 4, 5] [0, 5, 1, 2, 3, 4] rfl rfl rfl rfl (by decide) rfl rfl rfl rfl rfl hl.1 (Nat.le_of_ble_eq_true rfl) ⟨Nat.zero_le _, Nat.zero_le _⟩ dX0_pass_21 (fun H locs hP hD hS => ?_) rfl
  refine va_gets hx hb hG.1 hS hown k_68 (fun _ h9 => h9) dX0_pass_24 ?_
  refine lv_aload_n hx hb dX0_pass_27 rfl (lv_at hl 0 rfl) ?_
  refine va_get (D := D) (ci := 0) (v := .int (nI kn)) (C := RX0) (T := TX0) (N := 11) hx hb hts inX0 hown hK hP 0 rfl rfl 2 (by decide) k_32 (fun _ h9 => h9) rfl dX0_pass_28 ?_
  refine kNeed (k := kn) hx hb hG hS rfl (by omega) dX0_pass_31 ?_
  refine lv_isub hx hb dX0_pass_32 ?_
  refine lv_topi (fun x_1 e_1 => ?_)
  refine lv_istore_n (lv' := [(2, .int x_1), (0, .ref q), (1, .ref w)]) hx hb dX0_pass_33 rfl hl (by decide) rfl (fun ls hl => ?_)
  refine lv_iconst (v := 0) hx hb dX0_pass_34 (by decide) ?_
  refine lv_istore_n (lv' := [(3, .int 0), (2, .int x_1), (0, .ref q), (1, .ref w)]) hx hb dX0_pass_35 rfl hl (by decide) rfl (fun ls hl => ?_)
  have hnd := cNeed_le kn
  subst e_1
  have loop : ∀ (K : Nat) (j h1 : Nat) (p1 r1 m1 l1 : Int32) (g1 f1 : Nat → Int32) (hj : j + K = 64) (hh : h1 ≤ n + k) (hr1 : cRun kn en ds (n + k) K (h1, p1, r1, m1, l1, g1, f1) = (cRun kn en ds (n + k) 64 (0, pl, rp, mk, la, va_cpy f g 0 n k, pf))) (H : Heap) (locs : List Loc) (ls : Array Slot), va_P D vwCl [(q, .inr (0, [.ref ro, .ref pa, .int (nI kn), .int ds, .int en, .int p1, .int (nI h1), .int gv, .int r1, .int m1, .int l1])), (ro, .inr (1, [.ref rb, .int (nI (n + k))])), (rb, .inl (cI, 64, .inl g1)), (pa, .inl (cI, 32, .inl f1)), (w, .inr (1, [.ref wb, .int (nI (k - k))])), (wb, .inl (cI, 64, .inl (va_cpy f f k 0 (k - k))))] H → va_D A [(q, .inr (0, [.ref ro, .ref pa, .int (nI kn), .int ds, .int en, .int p1, .int (nI h1), .int gv, .int r1, .int m1, .int l1])), (ro, .inr (1, [.ref rb, .int (nI (n + k))])), (rb, .inl (cI, 64, .inl g1)), (pa, .inl (cI, 32, .inl f1)), (w, .inr (1, [.ref wb, .int (nI (k - k))])), (wb, .inl (cI, 64, .inl (va_cpy f f k 0 (k - k))))] → va_S A s.heap H locs → lv_has ls 5 [(0, .ref q), (1, .ref w), (2, .int (nI (n + k) - nI (cNeed kn))), (3, .int (nI j))] → W p l e ({ frames := 4, cells := 0, slots := 0, locals := 93 }) s m args below meth c H locs 0 0 Q (F0 m 36 ls []) := by
    intro K
    induction K with
    | zero =>
      intro j h1 p1 r1 m1 l1 g1 f1 hj hh hr1 H locs ls hP hD hS hl
      obtain rfl : j = 64 := by omega
      have eR : (h1, p1, r1, m1, l1, g1, f1) = (cRun kn en ds (n + k) 64 (0, pl, rp, mk, la, va_cpy f g 0 n k, pf)) := hr1
      refine lv_iload_n hx hb dX0_pass_36 rfl (lv_at hl 3 rfl) ?_
      refine lv_bipush (v := 64) hx hb dX0_pass_37 (by decide) ?_
      refine lv_icmp_ge (tgt := 84) hx hb dX0_pass_39 (by decide) (fun c_2 => ?_) (fun c_2 => ?_)
      · refine lv_aload_n hx hb dX0_pass_84 rfl (lv_at hl 0 rfl) ?_
        refine lv_dup hx hb dX0_pass_85 rfl ?_
        refine va_get (D := D) (ci := 0) (v := .int gv) (C := RX0) (T := TX0) (N := 11) hx hb hts inX0 hown hK hP 0 rfl rfl 7 (by decide) k_45 (fun _ h9 => h9) rfl dX0_pass_86 ?_
        refine lv_aload_n hx hb dX0_pass_89 rfl (lv_at hl 0 rfl) ?_
        refine va_get (D := D) (ci := 0) (v := .int (nI h1)) (C := RX0) (T := TX0) (N := 11) hx hb hts inX0 hown hK hP 0 rfl rfl 6 (by decide) k_65 (fun _ h9 => h9) rfl dX0_pass_90 ?_
        refine lv_iadd hx hb dX0_pass_93 ?_
        refine kPut (D := D) (ci := 0) (v := .int (gv + (nI h1))) (ty := .int) (C := RX0) (T := TX0) (N := 11) (ws' := [(q, .inr (0, [.ref ro, .ref pa, .int (nI kn), .int ds, .int en, .int p1, .int (nI h1), .int (gv + (nI h1)), .int r1, .int m1, .int l1])), (ro, .inr (1, [.ref rb, .int (nI (n + k))])), (rb, .inl (cI, 64, .inl g1)), (pa, .inl (cI, 32, .inl f1)), (w, .inr (1, [.ref wb, .int (nI (k - k))])), (wb, .inl (cI, 64, .inl (va_cpy f f k 0 (k - k))))]) hx hb hts inX0 tyX0 tyX0_ok nmX0 hown hK hP hD hS 0 rfl rfl 7 (by decide) k_45 rfl (by decide +kernel) (rfl) (by first | rfl | decide) (Nat.le_of_ble_eq_true rfl) rfl dX0_pass_94 (fun H locs hP hD hS => ?_)
        refine lv_aload_n hx hb dX0_pass_97 rfl (lv_at hl 0 rfl) ?_
        refine va_get (D := D) (ci := 0) (v := .ref ro) (C := RX0) (T := TX0) (N := 11) hx hb hts inX0 hown hK hP 0 rfl rfl 0 (by decide) k_14 (fun _ h9 => h9) rfl dX0_pass_98 ?_
        refine lv_aload_n hx hb dX0_pass_101 rfl (lv_at hl 1 rfl) ?_
        refine lv_aload_n hx hb dX0_pass_102 rfl (lv_at hl 0 rfl) ?_
        refine va_get (D := D) (ci := 0) (v := .int (nI h1)) (C := RX0) (T := TX0) (N := 11) hx hb hts inX0 hown hK hP 0 rfl rfl 6 (by decide) k_65 (fun _ h9 => h9) rfl dX0_pass_103 ?_
        refine kCallV (As := [.ref w, .int (nI h1)]) (wc := [(ro, .inr (1, [.ref rb, .int (nI (n + k))])), (rb, .inl (cI, 64, .inl g1)), (w, .inr (1, [.ref wb, .int (nI (k - k))])), (wb, .inl (cI, 64, .inl (va_cpy f f k 0 (k - k))))]) (wr := [(q, .inr (0, [.ref ro, .ref pa, .int (nI kn), .int ds, .int en, .int p1, .int (nI h1), .int (gv + (nI h1)), .int r1, .int m1, .int l1])), (pa, .inl (cI, 32, .inl f1))]) (ws' := [(q, .inr (0, [.ref ro, .ref pa, .int (nI kn), .int ds, .int en, .int p1, .int (nI h1), .int (gv + (nI h1)), .int r1, .int m1, .int l1])), (ro, .inr (1, [.ref rb, .int (nI ((n + k) - h1))])), (rb, .inl (cI, 64, .inl (va_cpy g1 g1 h1 0 ((n + k) - h1)))), (pa, .inl (cI, 32, .inl f1)), (w, .inr (1, [.ref wb, .int (nI ((k - k) + h1))])), (wb, .inl (cI, 64, .inl (va_cpy g1 (va_cpy f f k 0 (k - k)) 0 (k - k) h1)))]) (ci := 1) (C := RX1) ⟨hx, hb, hml, hown, hts⟩ (c_X1_moveTo l D cI cF cJ ro rb w wb 64 64 (n + k) (k - k) h1 g1 (va_cpy f f k 0 (k - k)) (by omega) (by omega) (by omega) (by omega) (by omega)) (cwV 2 hts gX0_pass_X1_moveTo rfl rfl rfl (by decide +kernel) ⟨Nat.le_of_ble_eq_true rfl, Nat.le_of_ble_eq_true rfl⟩) hK hP hD hS hA [1, 2, 4, 5] [0, 3] [0, 2, 3, 1, 4, 5] rfl rfl rfl rfl (by decide) rfl rfl rfl rfl rfl hl.1 (Nat.le_of_ble_eq_true rfl) ⟨Nat.zero_le _, Nat.zero_le _⟩ dX0_pass_106 (fun H locs hP hD hS => ?_) rfl
        exact hret _ _ _ _ dX0_pass_109 (by rw [← eR]; exact hP) (by rw [← eR]; exact hD) hS
      · exact absurd ((kLe (a := 64) (b := 64) rfl rfl (by omega) (by omega)).mpr (by omega)) c_2
    | succ K ih =>
      intro j h1 p1 r1 m1 l1 g1 f1 hj hh hr1 H locs ls hP hD hS hl
      refine lv_iload_n hx hb dX0_pass_36 rfl (lv_at hl 3 rfl) ?_
      refine lv_bipush (v := 64) hx hb dX0_pass_37 (by decide) ?_
      refine lv_icmp_ge (tgt := 84) hx hb dX0_pass_39 (by decide) (fun c_3 => ?_) (fun c_3 => ?_)
      · exact absurd ((kLe (a := 64) (b := j) rfl rfl (by omega) (by omega)).mp c_3) (by omega)
      · refine lv_aload_n hx hb dX0_pass_42 rfl (lv_at hl 0 rfl) ?_
        refine va_get (D := D) (ci := 0) (v := .int (nI h1)) (C := RX0) (T := TX0) (N := 11) hx hb hts inX0 hown hK hP 0 rfl rfl 6 (by decide) k_65 (fun _ h9 => h9) rfl dX0_pass_43 ?_
        refine lv_iload_n hx hb dX0_pass_46 rfl (lv_at hl 2 rfl) ?_
        refine lv_icmp_gt (tgt := 84) hx hb dX0_pass_47 (by decide) (fun c_4 => ?_) (fun c_4 => ?_)
        · have eR : (h1, p1, r1, m1, l1, g1, f1) = (cRun kn en ds (n + k) 64 (0, pl, rp, mk, la, va_cpy f g 0 n k, pf)) := by rw [← hr1]; exact (cRun_out (by have := (kEnd (by omega) (by omega) (by omega)).mp c_4; omega)).symm
          refine lv_aload_n hx hb dX0_pass_84 rfl (lv_at hl 0 rfl) ?_
          refine lv_dup hx hb dX0_pass_85 rfl ?_
          refine va_get (D := D) (ci := 0) (v := .int gv) (C := RX0) (T := TX0) (N := 11) hx hb hts inX0 hown hK hP 0 rfl rfl 7 (by decide) k_45 (fun _ h9 => h9) rfl dX0_pass_86 ?_
          refine lv_aload_n hx hb dX0_pass_89 rfl (lv_at hl 0 rfl) ?_
          refine va_get (D := D) (ci := 0) (v := .int (nI h1)) (C := RX0) (T := TX0) (N := 11) hx hb hts inX0 hown hK hP 0 rfl rfl 6 (by decide) k_65 (fun _ h9 => h9) rfl dX0_pass_90 ?_
          refine lv_iadd hx hb dX0_pass_93 ?_
          refine kPut (D := D) (ci := 0) (v := .int (gv + (nI h1))) (ty := .int) (C := RX0) (T := TX0) (N := 11) (ws' := [(q, .inr (0, [.ref ro, .ref pa, .int (nI kn), .int ds, .int en, .int p1, .int (nI h1), .int (gv + (nI h1)), .int r1, .int m1, .int l1])), (ro, .inr (1, [.ref rb, .int (nI (n + k))])), (rb, .inl (cI, 64, .inl g1)), (pa, .inl (cI, 32, .inl f1)), (w, .inr (1, [.ref wb, .int (nI (k - k))])), (wb, .inl (cI, 64, .inl (va_cpy f f k 0 (k - k))))]) hx hb hts inX0 tyX0 tyX0_ok nmX0 hown hK hP hD hS 0 rfl rfl 7 (by decide) k_45 rfl (by decide +kernel) (rfl) (by first | rfl | decide) (Nat.le_of_ble_eq_true rfl) rfl dX0_pass_94 (fun H locs hP hD hS => ?_)
          refine lv_aload_n hx hb dX0_pass_97 rfl (lv_at hl 0 rfl) ?_
          refine va_get (D := D) (ci := 0) (v := .ref ro) (C := RX0) (T := TX0) (N := 11) hx hb hts inX0 hown hK hP 0 rfl rfl 0 (by decide) k_14 (fun _ h9 => h9) rfl dX0_pass_98 ?_
          refine lv_aload_n hx hb dX0_pass_101 rfl (lv_at hl 1 rfl) ?_
          refine lv_aload_n hx hb dX0_pass_102 rfl (lv_at hl 0 rfl) ?_
          refine va_get (D := D) (ci := 0) (v := .int (nI h1)) (C := RX0) (T := TX0) (N := 11) hx hb hts inX0 hown hK hP 0 rfl rfl 6 (by decide) k_65 (fun _ h9 => h9) rfl dX0_pass_103 ?_
          refine kCallV (As := [.ref w, .int (nI h1)]) (wc := [(ro, .inr (1, [.ref rb, .int (nI (n + k))])), (rb, .inl (cI, 64, .inl g1)), (w, .inr (1, [.ref wb, .int (nI (k - k))])), (wb, .inl (cI, 64, .inl (va_cpy f f k 0 (k - k))))]) (wr := [(q, .inr (0, [.ref ro, .ref pa, .int (nI kn), .int ds, .int en, .int p1, .int (nI h1), .int (gv + (nI h1)), .int r1, .int m1, .int l1])), (pa, .inl (cI, 32, .inl f1))]) (ws' := [(q, .inr (0, [.ref ro, .ref pa, .int (nI kn), .int ds, .int en, .int p1, .int (nI h1), .int (gv + (nI h1)), .int r1, .int m1, .int l1])), (ro, .inr (1, [.ref rb, .int (nI ((n + k) - h1))])), (rb, .inl (cI, 64, .inl (va_cpy g1 g1 h1 0 ((n + k) - h1)))), (pa, .inl (cI, 32, .inl f1)), (w, .inr (1, [.ref wb, .int (nI ((k - k) + h1))])), (wb, .inl (cI, 64, .inl (va_cpy g1 (va_cpy f f k 0 (k - k)) 0 (k - k) h1)))]) (ci := 1) (C := RX1) ⟨hx, hb, hml, hown, hts⟩ (c_X1_moveTo l D cI cF cJ ro rb w wb 64 64 (n + k) (k - k) h1 g1 (va_cpy f f k 0 (k - k)) (by omega) (by omega) (by omega) (by omega) (by omega)) (cwV 2 hts gX0_pass_X1_moveTo rfl rfl rfl (by decide +kernel) ⟨Nat.le_of_ble_eq_true rfl, Nat.le_of_ble_eq_true rfl⟩) hK hP hD hS hA [1, 2, 4, 5] [0, 3] [0, 2, 3, 1, 4, 5] rfl rfl rfl rfl (by decide) rfl rfl rfl rfl rfl hl.1 (Nat.le_of_ble_eq_true rfl) ⟨Nat.zero_le _, Nat.zero_le _⟩ dX0_pass_106 (fun H locs hP hD hS => ?_) rfl
          exact hret _ _ _ _ dX0_pass_109 (by rw [← eR]; exact hP) (by rw [← eR]; exact hD) hS
        · have hg : h1 + cNeed kn ≤ n + k := by have := mt (kEnd (by omega) (by omega) (by omega)).mpr c_4; omega
          refine lv_aload_n hx hb dX0_pass_50 rfl (lv_at hl 0 rfl) ?_
          refine kCallI (As := []) (wc := [(q, .inr (0, [.ref ro, .ref pa, .int (nI kn), .int ds, .int en, .int p1, .int (nI h1), .int gv, .int r1, .int m1, .int l1])), (ro, .inr (1, [.ref rb, .int (nI (n + k))])), (rb, .inl (cI, 64, .inl g1)), (pa, .inl (cI, 32, .inl f1))]) (wr := [(w, .inr (1, [.ref wb, .int (nI (k - k))])), (wb, .inl (cI, 64, .inl (va_cpy f f k 0 (k - k))))]) (ws' := [(q, .inr (0, [.ref ro, .ref pa, .int (nI kn), .int ds, .int en, .int p1, .int (nI h1), .int gv, .int ((cStep kn en p1 ds r1 m1 l1 h1 g1 f1).2.1), .int ((cStep kn en p1 ds r1 m1 l1 h1 g1 f1).2.2.1), .int ((cStep kn en p1 ds r1 m1 l1 h1 g1 f1).2.2.2.1)])), (ro, .inr (1, [.ref rb, .int (nI (n + k))])), (rb, .inl (cI, 64, .inl ((cStep kn en p1 ds r1 m1 l1 h1 g1 f1).2.2.2.2.1))), (pa, .inl (cI, 32, .inl ((cStep kn en p1 ds r1 m1 l1 h1 g1 f1).2.2.2.2.2))), (w, .inr (1, [.ref wb, .int (nI (k - k))])), (wb, .inl (cI, 64, .inl (va_cpy f f k 0 (k - k))))]) (ci := 0) (C := RX0) ⟨hx, hb, hml, hown, hts⟩ (c_X0_step l D cI cF cJ q ro pa rb h1 kn ds en p1 gv r1 m1 l1 (nI (n + k)) g1 f1 (by omega) (by omega)) (cwV 0 hts gX0_pass_X0_step rfl rfl rfl (by decide +kernel) ⟨Nat.le_of_ble_eq_true rfl, Nat.le_of_ble_eq_true rfl⟩) hK hP hD hS hA [0, 1, 2, 3] [4, 5] [2, 3, 4, 5, 0, 1] rfl rfl rfl rfl (by decide) rfl rfl rfl rfl rfl hl.1 (Nat.le_of_ble_eq_true rfl) ⟨Nat.zero_le _, Nat.zero_le _⟩ dX0_pass_51 (fun H locs hP hD hS => ?_) rfl
          refine lv_topi (fun x_5 e_5 => ?_)
          refine lv_istore (lv' := [(4, .int x_5), (0, .ref q), (1, .ref w), (2, .int (nI (n + k) - nI (cNeed kn))), (3, .int (nI j))]) hx hb dX0_pass_54 hl (by decide) rfl (fun ls hl => ?_)
          obtain ⟨mm, em, hm1, hm2⟩ := cStep_many kn en p1 ds r1 m1 l1 h1 g1 f1
          rw [em] at e_5
          subst e_5
          refine lv_aload_n hx hb dX0_pass_56 rfl (lv_at hl 1 rfl) ?_
          refine lv_dup hx hb dX0_pass_57 rfl ?_
          refine va_get (D := D) (ci := 0) (v := .int (nI h1)) (C := RX0) (T := TX0) (N := 11) hx hb hts inX0 hown hK hP 0 rfl rfl 6 (by decide) k_65 (fun _ h9 => h9) rfl dX0_pass_58 ?_
          refine lv_iload hx hb dX0_pass_61 (lv_at hl 0 rfl) ?_
          refine lv_iadd hx hb dX0_pass_63 ?_
          refine kTop (y := nI (h1 + mm)) (nI_add _ _) ?_
          refine kPut (D := D) (ci := 0) (v := .int (nI (h1 + mm))) (ty := .int) (C := RX0) (T := TX0) (N := 11) (ws' := [(q, .inr (0, [.ref ro, .ref pa, .int (nI kn), .int ds, .int en, .int p1, .int (nI (h1 + mm)), .int gv, .int ((cStep kn en p1 ds r1 m1 l1 h1 g1 f1).2.1), .int ((cStep kn en p1 ds r1 m1 l1 h1 g1 f1).2.2.1), .int ((cStep kn en p1 ds r1 m1 l1 h1 g1 f1).2.2.2.1)])), (ro, .inr (1, [.ref rb, .int (nI (n + k))])), (rb, .inl (cI, 64, .inl ((cStep kn en p1 ds r1 m1 l1 h1 g1 f1).2.2.2.2.1))), (pa, .inl (cI, 32, .inl ((cStep kn en p1 ds r1 m1 l1 h1 g1 f1).2.2.2.2.2))), (w, .inr (1, [.ref wb, .int (nI (k - k))])), (wb, .inl (cI, 64, .inl (va_cpy f f k 0 (k - k))))]) hx hb hts inX0 tyX0 tyX0_ok nmX0 hown hK hP hD hS 0 rfl rfl 6 (by decide) k_65 rfl (by decide +kernel) (rfl) (by first | rfl | decide) (Nat.le_of_ble_eq_true rfl) rfl dX0_pass_64 (fun H locs hP hD hS => ?_)
          refine lv_aload_n hx hb dX0_pass_67 rfl (lv_at hl 1 rfl) ?_
          refine lv_dup hx hb dX0_pass_68 rfl ?_
          refine va_get (D := D) (ci := 0) (v := .int p1) (C := RX0) (T := TX0) (N := 11) hx hb hts inX0 hown hK hP 0 rfl rfl 5 (by decide) k_42 (fun _ h9 => h9) rfl dX0_pass_69 ?_
          refine lv_iload hx hb dX0_pass_72 (lv_at hl 0 rfl) ?_
          refine lv_iadd hx hb dX0_pass_74 ?_
          refine kPut (D := D) (ci := 0) (v := .int (p1 + (nI mm))) (ty := .int) (C := RX0) (T := TX0) (N := 11) (ws' := [(q, .inr (0, [.ref ro, .ref pa, .int (nI kn), .int ds, .int en, .int (p1 + (nI mm)), .int (nI (h1 + mm)), .int gv, .int ((cStep kn en p1 ds r1 m1 l1 h1 g1 f1).2.1), .int ((cStep kn en p1 ds r1 m1 l1 h1 g1 f1).2.2.1), .int ((cStep kn en p1 ds r1 m1 l1 h1 g1 f1).2.2.2.1)])), (ro, .inr (1, [.ref rb, .int (nI (n + k))])), (rb, .inl (cI, 64, .inl ((cStep kn en p1 ds r1 m1 l1 h1 g1 f1).2.2.2.2.1))), (pa, .inl (cI, 32, .inl ((cStep kn en p1 ds r1 m1 l1 h1 g1 f1).2.2.2.2.2))), (w, .inr (1, [.ref wb, .int (nI (k - k))])), (wb, .inl (cI, 64, .inl (va_cpy f f k 0 (k - k))))]) hx hb hts inX0 tyX0 tyX0_ok nmX0 hown hK hP hD hS 0 rfl rfl 5 (by decide) k_42 rfl (by decide +kernel) (rfl) (by first | rfl | decide) (Nat.le_of_ble_eq_true rfl) rfl dX0_pass_75 (fun H locs hP hD hS => ?_)
          refine lv_iinc (v := nI (j + 1)) (lv' := [(3, .int (nI (j + 1))), (4, .int (nI mm)), (0, .ref q), (1, .ref w), (2, .int (nI (n + k) - nI (cNeed kn)))]) hx hb dX0_pass_78 hl (k := 4) rfl (nI_1 _) (by decide) rfl (fun ls hl => ?_)
          refine lv_goto (tgt := 36) hx hb dX0_pass_81 (by decide) ?_
          exact ih (j + 1) (h1 + mm) (p1 + nI mm) (cStep kn en p1 ds r1 m1 l1 h1 g1 f1).2.1 (cStep kn en p1 ds r1 m1 l1 h1 g1 f1).2.2.1 (cStep kn en p1 ds r1 m1 l1 h1 g1 f1).2.2.2.1 (cStep kn en p1 ds r1 m1 l1 h1 g1 f1).2.2.2.2.1 (cStep kn en p1 ds r1 m1 l1 h1 g1 f1).2.2.2.2.2 (by omega) (by omega) (by rw [← hr1]; exact (cRun_go hg em (by omega)).symm) _ _ _ hP hD hS (lv_sub hl [2, 3, 4, 0] rfl)
  exact loop 64 0 0 pl rp mk la (va_cpy f g 0 n k) pf (by omega) (by omega) rfl _ _ _ hP hD hS (lv_sub hl [2, 3, 1, 0] rfl)
