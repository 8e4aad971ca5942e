/-! the law's entry: what the Statement gives -/
theorem kn_st {s : State} {args : Array Value} {k : Nat} {tx : String} (h1 : (Cond.stringRef RX2 k tx).before args s = true) (h2 : (Cond.exactly (.string RX2 k) "java/lang/String").before args s = true) : ∃ sa, vk_R RX2 k tx sa s := by
  obtain ⟨a, c, cA, kA, q1, -⟩ := Cond.exactly_spec (args := args) (first := s) (o := none) (s := s) (idx := []) (t := .string RX2 k) (cls := "java/lang/String") h2
  exact ⟨a, vk_R.of h1 q1⟩
theorem kn_fm {α : Type} {P : α → Prop} : ∀ q ∈ ([] : List α), P q := fun _ h => nomatch h
theorem kn_fc {α : Type} {P : α → Prop} {a : α} {l : List α} (h : P a) (t : ∀ q ∈ l, P q) : ∀ q ∈ a :: l, P q := List.forall_mem_cons.mpr ⟨h, t⟩
set_option maxHeartbeats 4000000 in
set_option maxRecDepth 100000 in
theorem kN_at {s : State} {args : Array Value} (hts : ∀ w ∈ lw_tbl, w.before args s = true) (hgv : (Jvm.Cond.and given_1 narrow_1).before args s = true) : kN s := by
  have hs := flat_of_before _ hgv
  have st : ∀ (k : Nat) (tx : String), (Cond.stringRef RX2 k tx) ∈ lw_tbl → (Cond.exactly (.string RX2 k) "java/lang/String") ∈ _ → ∃ sa, vk_R RX2 k tx sa s := fun k tx h1 h2 => kn_st (hts _ h1) (hs _ h2)
  refine ⟨?_, ?_, ?_, ?_, va_Nc.of (hs (.not (.castable kE2 kE1)) (by decide +kernel))⟩
  · exact kn_fc (va_Nw.of rfl (hts (.fieldLinkNest RX2 83 RX0 "kind" "I" RX2) (by decide +kernel))) (kn_fc (va_Nw.of rfl (hts (.fieldLinkNest RX2 86 RX0 "distance" "I" RX2) (by decide +kernel))) (kn_fc (va_Nw.of rfl (hts (.fieldLinkNest RX2 89 RX0 "held" "LBranchFilters$Row;" RX2) (by decide +kernel))) (kn_fc (va_Nw.of rfl (hts (.fieldLinkNest RX2 92 RX0 "given" "I" RX2) (by decide +kernel))) (kn_fc (va_Nw.of rfl (hts (.fieldLinkNest RX2 95 RX0 "replaced" "I" RX2) (by decide +kernel))) (kn_fc (va_Nw.of rfl (hts (.fieldLinkNest RX2 98 RX0 "mask" "I" RX2) (by decide +kernel))) kn_fm)))))
  · exact kn_fc (va_Nw.of rfl (hts (.castable kE1 kE1) (by decide +kernel))) (kn_fc (va_Nw.of rfl (hts (.castable kE2 kE2) (by decide +kernel))) (kn_fc (va_Nw.of rfl (hts (.castable kE3 kE3) (by decide +kernel))) kn_fm))
  · exact kn_fc (va_Nw.of rfl (hts (.declares (Bundle.initS "java/lang/RuntimeException")) (by decide +kernel))) (kn_fc (va_Nw.of rfl (hts (.declares (Bundle.initS "java/lang/Exception")) (by decide +kernel))) (kn_fc (va_Nw.of rfl (hts (.declares (Bundle.initS Bundle.tN)) (by decide +kernel))) kn_fm))
  · exact kn_fc (st 34 "no such filter" (by decide +kernel) (by decide +kernel)) (kn_fc (st 39 "no such kind" (by decide +kernel) (by decide +kernel)) (kn_fc (st 41 "no such distance" (by decide +kernel) (by decide +kernel)) (kn_fc (st 54 "not 0 to 16 bytes" (by decide +kernel) (by decide +kernel)) (kn_fc (st 61 "finished" (by decide +kernel) (by decide +kernel)) (kn_fc (st 66 "too many bytes" (by decide +kernel) (by decide +kernel)) (kn_fc (st 101 "no such count" (by decide +kernel) (by decide +kernel)) (kn_fc (st 105 "not all four bytes are there" (by decide +kernel) (by decide +kernel)) kn_fm)))))))
abbrev kTm : Term := .static RX0 "NEEDED" "[I"
set_option maxHeartbeats 4000000 in
set_option maxRecDepth 100000 in
theorem kG_at {s : State} {args : Array Value} (hts : ∀ w ∈ lw_tbl, w.before args s = true) (hgv : (Jvm.Cond.and given_1 narrow_1).before args s = true) : ∃ nd, kG nd (fun q : Nat => s.heap.size ≤ q) s := by
  have hN := kN_at hts hgv
  have hs := flat_of_before _ hgv
  have hA : ∀ a : Nat, a < s.heap.size → ¬ (fun q : Nat => s.heap.size ≤ q) a := fun a h => Nat.not_le.mpr h
  have harr := hs (.arrayOf kTm .int) (by decide +kernel)
  have hlen := va_eqt (hs (.eq (.length kTm) (.int 8)) (by decide +kernel))
  have e0 := va_eqt (hs (.eq (.elem kTm (.int 0)) (.int 1)) (by decide +kernel))
  have e1 := va_eqt (hs (.eq (.elem kTm (.int 1)) (.int 1)) (by decide +kernel))
  have e2 := va_eqt (hs (.eq (.elem kTm (.int 2)) (.int 5)) (by decide +kernel))
  have e3 := va_eqt (hs (.eq (.elem kTm (.int 3)) (.int 4)) (by decide +kernel))
  have e4 := va_eqt (hs (.eq (.elem kTm (.int 4)) (.int 4)) (by decide +kernel))
  have e5 := va_eqt (hs (.eq (.elem kTm (.int 5)) (.int 4)) (by decide +kernel))
  have e6 := va_eqt (hs (.eq (.elem kTm (.int 6)) (.int 4)) (by decide +kernel))
  have e7 := va_eqt (hs (.eq (.elem kTm (.int 7)) (.int 8)) (by decide +kernel))
  have hel : ∀ j : Nat, j < 8 → (Term.elem kTm (.int (Int32.ofNat j))).eval args s none [] s = some (cNd j) := by
    intro j hj
    rcases (show j = 0 ∨ j = 1 ∨ j = 2 ∨ j = 3 ∨ j = 4 ∨ j = 5 ∨ j = 6 ∨ j = 7 by omega) with rfl | rfl | rfl | rfl | rfl | rfl | rfl | rfl
    · exact e0
    · exact e1
    · exact e2
    · exact e3
    · exact e4
    · exact e5
    · exact e6
    · exact e7
  obtain ⟨nd, hnd, hT⟩ := va_Tof (N := 8) (f := cNd) (A := fun q : Nat => s.heap.size ≤ q) (by decide) harr hlen hel hA
  exact ⟨nd, va_Zof (hts (.laysStatic RX0 "NEEDED" "[I") (by decide +kernel)) (hts (.initialized RX0) (by decide +kernel)) hnd hA, hT,
    vx_Zqof (hts (.laysStatic Bundle.tN "UNASSIGNED_STACK" Bundle.steD) (by decide +kernel)) (hts (.initialized Bundle.tN) (by decide +kernel)) (hs (.isRef (.static Bundle.tN "UNASSIGNED_STACK" Bundle.steD)) (by decide +kernel)) hA,
    vx_Zqof (hts (.laysStatic Bundle.tN "SUPPRESSED_SENTINEL" Bundle.listD) (by decide +kernel)) (hts (.initialized Bundle.tN) (by decide +kernel)) (hs (.isRef (.static Bundle.tN "SUPPRESSED_SENTINEL" Bundle.listD)) (by decide +kernel)) hA, hN⟩
theorem arr_at {s : State} {args : Array Value} {ty : FieldType} (h : (Cond.arrayClass ty).before args s = true) : ∃ cA, ArrOfT s cA ty ∧ s.vm.findClass ("[" ++ ty.toString) = some cA := by
  obtain ⟨c, k, comp, h1, h2, h3⟩ := Cond.arrayClass_spec (args := args) (first := s) (o := none) (s := s) (idx := []) h
  exact ⟨c, fun n z => ⟨fun k h => (by cases h), k, h2, comp, h3⟩, h1⟩
set_option maxHeartbeats 4000000 in
set_option maxRecDepth 100000 in
theorem kK_at {s : State} {args : Array Value} (hts : ∀ w ∈ wsL_law, w.before args s = true) (hO : va_AO RX0 s) : ∃ (D : va_G) (cI cF cJ : ClassId), va_K D vwCl (kTy cI cF cJ) s := by
  obtain ⟨c0, iS0, hKn0⟩ := u_known (C := RX0) (T := TX0) (N := 11) (n := 11) hts inlX0 (hts (.instantiable RX0 11) (by decide +kernel))
  obtain ⟨c1, iS1, hKn1⟩ := u_known (C := RX1) (T := TX1) (N := 2) (n := 2) hts inlX1 (hts (.instantiable RX1 2) (by decide +kernel))
  obtain ⟨c2, iS2, hKn2⟩ := u_known (C := RX2) (T := TX2) (N := 7) (n := 7) hts inlX2 (hts (.instantiable RX2 7) (by decide +kernel))
  obtain ⟨c3, iS3, hKn3⟩ := u_known (C := RX3) (T := TX3) (N := 20) (n := 20) hts inlX3 (hts (.instantiable RX3 20) (by decide +kernel))
  obtain ⟨cI, hI1, hI2⟩ := arr_at (hts (.arrayClass .int) (by decide +kernel))
  obtain ⟨cJ, hJ1, hJ2⟩ := arr_at (hts (.arrayClass .long) (by decide +kernel))
  obtain ⟨comp, cF, kF, f1, f2, f3, f4, f5⟩ := Cond.arrayOver_spec hO
  refine ⟨(fun k => if k = 0 then c0 else if k = 1 then c1 else if k = 2 then c2 else c3, fun k => if k = 0 then iS0 else if k = 1 then iS1 else if k = 2 then iS2 else iS3), cI, cF, cJ, ?_, ?_⟩
  · intro k q hq
    match k, hq with
    | 0, hq => cases hq; exact hKn0
    | 1, hq => cases hq; exact hKn1
    | 2, hq => cases hq; exact hKn2
    | 3, hq => cases hq; exact hKn3
    | k + 4, hq => simp [vwCl] at hq
  · intro k q hq
    match k, hq with
    | 0, hq => cases hq; exact ⟨hI1, hI2⟩
    | 1, hq => cases hq; exact ⟨fun n z => ⟨fun k h => (by cases h), kF, f3, comp, f4⟩, kF, comp, f3, f4, f1, f5⟩
    | 2, hq => cases hq; exact ⟨hJ1, hJ2⟩
    | k + 3, hq => simp [kTy] at hq
/-- a new array of longs -/
theorem kNewJ {p : Program} {l : Launch} {e : Env} {R : Room} {s : State} {m : MethodId} {args : Array Value} {below : List Frame} {meth : Method} {c : Code} {H : Heap} {locs : List Loc} {cells slots : Nat} {Q : State → Prop} {cc : ByteArray} {pc : Nat} {ls : Array Slot} {rest : List Value} {D : va_G} {tys : List (ClassId × FieldType)} {A : Nat → Prop} {H0 : Heap} {ws : va_W}
    (hx : p.tables.exec = Jvm.exec) (hb : c.code = cc) {at9 : ArrayType} (hat : newarray.typeOf at9 = .long) (harr : (Cond.arrayClass .long).before args s = true) (hK : va_K D vwCl tys s) (hP : va_P D vwCl ws H) (hD : va_D A ws) (hS : va_S A H0 H locs) (hA : ∀ q, H0.size ≤ q → A q) (t0 : Nat) {cA : ClassId} (ht : tys[t0]? = some (cA, .long))
    {i : Int32} {k c2 s2 : Nat} (hi : i = nI k) (hk : k ≤ 100000) (hc2 : cells + 1 = c2) (hs2 : slots + k = s2) (hcells : c2 ≤ R.cells) (hslots : s2 ≤ R.slots) (hdg : decode cc pc = .ok (.newarray at9, 2))
    (kk : ∀ (q : Nat) (H1 : Heap), va_P D vwCl (ws ++ [(q, .inl (cA, k, .inr (.inl (fun _ => 0))))]) H1 → va_D A (ws ++ [(q, .inl (cA, k, .inr (.inl (fun _ => 0))))]) → va_S A H0 H1 locs → W p l e R s m args below meth c H1 locs c2 s2 Q (F0 m (pc + 2) ls (.ref q :: rest))) : W p l e R s m args below meth c H locs cells slots Q (F0 m pc ls (.int i :: rest)) := by
  subst hi; subst hc2; subst hs2
  refine va_newa hx hb (by rw [hat]; exact harr) (ty := .long) hat hK hP hD hS hA (N' := k) (a0 := (k, .inr (.inl (fun _ => 0)))) (fun _ => rfl) (nI_pos (by omega)) (nI_clamp (by omega)) (by show k * 8 ≤ _; omega) hcells hslots hdg ?_
  intro q cB H1 hK1 hP1 hD1 hS1
  have h1 : va_RA s cA .long := (hK.2 t0 _ ht).2
  have h2 : va_RA s cB .long := (hK1.2 tys.length (cB, .long) (by simp)).2
  have h3 : cB = cA := Option.some.inj (Eq.trans (Eq.symm h2) h1)
  subst h3
  exact kk q H1 hP1 hD1 hS1
theorem h0_of {l : Launch} (h : l.flags = flags0) : l.stackTraces = false := by
  show (!l.flags.contains noTraceFlag) = false
  rw [h]; decide +kernel
