section
-- ===== PART A: goes FIRST, ahead of the names: the tables' words, and 'selects' of the private methods out of them =====
/-- a private method of a class that the tables say can be made, by its rows of tables_1 -/
def lw_okq (q : MethodName × Nat) : Prop := (q.1.cls ≠ "java/lang/invoke/MethodHandle" ∧ q.1.cls ≠ "java/lang/invoke/VarHandle") ∧ Cond.instantiable q.1.cls q.2 ∈ tables_1 ∧ Cond.privateMethod q.1 ∈ tables_1 ∧ Cond.instanceMethod q.1 ∈ tables_1
theorem lw_p0 : lw_okq (⟨"BranchFilters", "beginAnew", "()V"⟩, 7) := ⟨⟨by decide +kernel, by decide +kernel⟩, List.mem_of_getElem? (i := 13) (by decide +kernel), List.mem_of_getElem? (i := 118) (by decide +kernel), List.mem_of_getElem? (i := 119) (by decide +kernel)⟩
theorem lw_p1 : lw_okq (⟨"java/lang/Throwable", "fillInStackTrace", "(I)Ljava/lang/Throwable;"⟩, 6) := ⟨⟨by decide +kernel, by decide +kernel⟩, List.mem_of_getElem? (i := 182) (by decide +kernel), List.mem_of_getElem? (i := 180) (by decide +kernel), List.mem_of_getElem? (i := 181) (by decide +kernel)⟩
theorem lw_p2 : lw_okq (⟨"BranchFilters", "sendThroughChain", "(Z)V"⟩, 7) := ⟨⟨by decide +kernel, by decide +kernel⟩, List.mem_of_getElem? (i := 13) (by decide +kernel), List.mem_of_getElem? (i := 248) (by decide +kernel), List.mem_of_getElem? (i := 249) (by decide +kernel)⟩
theorem lw_p3 : lw_okq (⟨"BranchFilters$Filter", "step", "()I"⟩, 11) := ⟨⟨by decide +kernel, by decide +kernel⟩, List.mem_of_getElem? (i := 22) (by decide +kernel), List.mem_of_getElem? (i := 266) (by decide +kernel), List.mem_of_getElem? (i := 267) (by decide +kernel)⟩
theorem lw_p4 : lw_okq (⟨"BranchFilters$Filter", "stepDelta", "()I"⟩, 11) := ⟨⟨by decide +kernel, by decide +kernel⟩, List.mem_of_getElem? (i := 22) (by decide +kernel), List.mem_of_getElem? (i := 270) (by decide +kernel), List.mem_of_getElem? (i := 271) (by decide +kernel)⟩
theorem lw_p5 : lw_okq (⟨"BranchFilters$Filter", "moved", "(II)I"⟩, 11) := ⟨⟨by decide +kernel, by decide +kernel⟩, List.mem_of_getElem? (i := 22) (by decide +kernel), List.mem_of_getElem? (i := 275) (by decide +kernel), List.mem_of_getElem? (i := 276) (by decide +kernel)⟩
theorem lw_p6 : lw_okq (⟨"BranchFilters$Filter", "stepX86", "()I"⟩, 11) := ⟨⟨by decide +kernel, by decide +kernel⟩, List.mem_of_getElem? (i := 22) (by decide +kernel), List.mem_of_getElem? (i := 283) (by decide +kernel), List.mem_of_getElem? (i := 284) (by decide +kernel)⟩
theorem lw_p7 : lw_okq (⟨"BranchFilters$Filter", "ageMask", "()V"⟩, 11) := ⟨⟨by decide +kernel, by decide +kernel⟩, List.mem_of_getElem? (i := 22) (by decide +kernel), List.mem_of_getElem? (i := 287) (by decide +kernel), List.mem_of_getElem? (i := 288) (by decide +kernel)⟩
theorem lw_p8 : lw_okq (⟨"BranchFilters$Filter", "maskAllows", "()Z"⟩, 11) := ⟨⟨by decide +kernel, by decide +kernel⟩, List.mem_of_getElem? (i := 22) (by decide +kernel), List.mem_of_getElem? (i := 294) (by decide +kernel), List.mem_of_getElem? (i := 295) (by decide +kernel)⟩
theorem lw_p9 : lw_okq (⟨"BranchFilters$Filter", "x86Target", "(II)I"⟩, 11) := ⟨⟨by decide +kernel, by decide +kernel⟩, List.mem_of_getElem? (i := 22) (by decide +kernel), List.mem_of_getElem? (i := 302) (by decide +kernel), List.mem_of_getElem? (i := 303) (by decide +kernel)⟩
theorem lw_p10 : lw_okq (⟨"BranchFilters$Filter", "stepArm", "()I"⟩, 11) := ⟨⟨by decide +kernel, by decide +kernel⟩, List.mem_of_getElem? (i := 22) (by decide +kernel), List.mem_of_getElem? (i := 310) (by decide +kernel), List.mem_of_getElem? (i := 311) (by decide +kernel)⟩
theorem lw_p11 : lw_okq (⟨"BranchFilters$Filter", "stepThumb", "()I"⟩, 11) := ⟨⟨by decide +kernel, by decide +kernel⟩, List.mem_of_getElem? (i := 22) (by decide +kernel), List.mem_of_getElem? (i := 316) (by decide +kernel), List.mem_of_getElem? (i := 317) (by decide +kernel)⟩
theorem lw_p12 : lw_okq (⟨"BranchFilters$Filter", "stepPower", "()I"⟩, 11) := ⟨⟨by decide +kernel, by decide +kernel⟩, List.mem_of_getElem? (i := 22) (by decide +kernel), List.mem_of_getElem? (i := 320) (by decide +kernel), List.mem_of_getElem? (i := 321) (by decide +kernel)⟩
theorem lw_p13 : lw_okq (⟨"BranchFilters$Filter", "stepSparc", "()I"⟩, 11) := ⟨⟨by decide +kernel, by decide +kernel⟩, List.mem_of_getElem? (i := 22) (by decide +kernel), List.mem_of_getElem? (i := 334) (by decide +kernel), List.mem_of_getElem? (i := 335) (by decide +kernel)⟩
theorem lw_p14 : lw_okq (⟨"BranchFilters$Filter", "stepRisc", "()I"⟩, 11) := ⟨⟨by decide +kernel, by decide +kernel⟩, List.mem_of_getElem? (i := 22) (by decide +kernel), List.mem_of_getElem? (i := 341) (by decide +kernel), List.mem_of_getElem? (i := 342) (by decide +kernel)⟩
theorem lw_p15 : lw_okq (⟨"BranchFilters$Filter", "replaceRiscJump", "(I)V"⟩, 11) := ⟨⟨by decide +kernel, by decide +kernel⟩, List.mem_of_getElem? (i := 22) (by decide +kernel), List.mem_of_getElem? (i := 345) (by decide +kernel), List.mem_of_getElem? (i := 346) (by decide +kernel)⟩
def lw_privs_1 : List (MethodName × Nat) := [(⟨"BranchFilters", "beginAnew", "()V"⟩, 7), (⟨"java/lang/Throwable", "fillInStackTrace", "(I)Ljava/lang/Throwable;"⟩, 6), (⟨"BranchFilters", "sendThroughChain", "(Z)V"⟩, 7), (⟨"BranchFilters$Filter", "step", "()I"⟩, 11), (⟨"BranchFilters$Filter", "stepDelta", "()I"⟩, 11), (⟨"BranchFilters$Filter", "moved", "(II)I"⟩, 11), (⟨"BranchFilters$Filter", "stepX86", "()I"⟩, 11), (⟨"BranchFilters$Filter", "ageMask", "()V"⟩, 11), (⟨"BranchFilters$Filter", "maskAllows", "()Z"⟩, 11), (⟨"BranchFilters$Filter", "x86Target", "(II)I"⟩, 11), (⟨"BranchFilters$Filter", "stepArm", "()I"⟩, 11), (⟨"BranchFilters$Filter", "stepThumb", "()I"⟩, 11), (⟨"BranchFilters$Filter", "stepPower", "()I"⟩, 11), (⟨"BranchFilters$Filter", "stepSparc", "()I"⟩, 11), (⟨"BranchFilters$Filter", "stepRisc", "()I"⟩, 11), (⟨"BranchFilters$Filter", "replaceRiscJump", "(I)V"⟩, 11)]
theorem lw_r1 : ∀ q ∈ lw_privs_1, lw_okq q := List.forall_mem_cons.mpr ⟨lw_p0, List.forall_mem_cons.mpr ⟨lw_p1, List.forall_mem_cons.mpr ⟨lw_p2, List.forall_mem_cons.mpr ⟨lw_p3, List.forall_mem_cons.mpr ⟨lw_p4, List.forall_mem_cons.mpr ⟨lw_p5, List.forall_mem_cons.mpr ⟨lw_p6, List.forall_mem_cons.mpr ⟨lw_p7, List.forall_mem_cons.mpr ⟨lw_p8, List.forall_mem_cons.mpr ⟨lw_p9, List.forall_mem_cons.mpr ⟨lw_p10, List.forall_mem_cons.mpr ⟨lw_p11, List.forall_mem_cons.mpr ⟨lw_p12, List.forall_mem_cons.mpr ⟨lw_p13, List.forall_mem_cons.mpr ⟨lw_p14, List.forall_mem_cons.mpr ⟨lw_p15, fun _ h => absurd h List.not_mem_nil⟩⟩⟩⟩⟩⟩⟩⟩⟩⟩⟩⟩⟩⟩⟩⟩
theorem lw_p16 : lw_okq (⟨"BranchFilters$Filter", "replaceRiscPair", "(III)V"⟩, 11) := ⟨⟨by decide +kernel, by decide +kernel⟩, List.mem_of_getElem? (i := 22) (by decide +kernel), List.mem_of_getElem? (i := 350) (by decide +kernel), List.mem_of_getElem? (i := 351) (by decide +kernel)⟩
theorem lw_p17 : lw_okq (⟨"BranchFiltersModel", "anew", "()V"⟩, 20) := ⟨⟨by decide +kernel, by decide +kernel⟩, List.mem_of_getElem? (i := 400) (by decide +kernel), List.mem_of_getElem? (i := 406) (by decide +kernel), List.mem_of_getElem? (i := 407) (by decide +kernel)⟩
theorem lw_p18 : lw_okq (⟨"BranchFiltersModel", "refused", "(I)Z"⟩, 20) := ⟨⟨by decide +kernel, by decide +kernel⟩, List.mem_of_getElem? (i := 400) (by decide +kernel), List.mem_of_getElem? (i := 482) (by decide +kernel), List.mem_of_getElem? (i := 483) (by decide +kernel)⟩
theorem lw_p19 : lw_okq (⟨"BranchFiltersModel", "goThrough", "(Z)V"⟩, 20) := ⟨⟨by decide +kernel, by decide +kernel⟩, List.mem_of_getElem? (i := 400) (by decide +kernel), List.mem_of_getElem? (i := 494) (by decide +kernel), List.mem_of_getElem? (i := 495) (by decide +kernel)⟩
theorem lw_p20 : lw_okq (⟨"BranchFiltersModel", "change", "(III)V"⟩, 20) := ⟨⟨by decide +kernel, by decide +kernel⟩, List.mem_of_getElem? (i := 400) (by decide +kernel), List.mem_of_getElem? (i := 498) (by decide +kernel), List.mem_of_getElem? (i := 499) (by decide +kernel)⟩
theorem lw_p21 : lw_okq (⟨"BranchFiltersModel", "work", "(I)V"⟩, 20) := ⟨⟨by decide +kernel, by decide +kernel⟩, List.mem_of_getElem? (i := 400) (by decide +kernel), List.mem_of_getElem? (i := 505) (by decide +kernel), List.mem_of_getElem? (i := 506) (by decide +kernel)⟩
theorem lw_p22 : lw_okq (⟨"BranchFiltersModel", "give", "(II)V"⟩, 20) := ⟨⟨by decide +kernel, by decide +kernel⟩, List.mem_of_getElem? (i := 400) (by decide +kernel), List.mem_of_getElem? (i := 509) (by decide +kernel), List.mem_of_getElem? (i := 510) (by decide +kernel)⟩
theorem lw_p23 : lw_okq (⟨"BranchFiltersModel", "at", "(II)I"⟩, 20) := ⟨⟨by decide +kernel, by decide +kernel⟩, List.mem_of_getElem? (i := 400) (by decide +kernel), List.mem_of_getElem? (i := 513) (by decide +kernel), List.mem_of_getElem? (i := 514) (by decide +kernel)⟩
theorem lw_p24 : lw_okq (⟨"BranchFiltersModel", "delta", "(I)V"⟩, 20) := ⟨⟨by decide +kernel, by decide +kernel⟩, List.mem_of_getElem? (i := 400) (by decide +kernel), List.mem_of_getElem? (i := 517) (by decide +kernel), List.mem_of_getElem? (i := 518) (by decide +kernel)⟩
theorem lw_p25 : lw_okq (⟨"BranchFiltersModel", "jump", "(I)V"⟩, 20) := ⟨⟨by decide +kernel, by decide +kernel⟩, List.mem_of_getElem? (i := 400) (by decide +kernel), List.mem_of_getElem? (i := 521) (by decide +kernel), List.mem_of_getElem? (i := 522) (by decide +kernel)⟩
theorem lw_p26 : lw_okq (⟨"BranchFiltersModel", "place", "(I)I"⟩, 20) := ⟨⟨by decide +kernel, by decide +kernel⟩, List.mem_of_getElem? (i := 400) (by decide +kernel), List.mem_of_getElem? (i := 525) (by decide +kernel), List.mem_of_getElem? (i := 526) (by decide +kernel)⟩
theorem lw_p27 : lw_okq (⟨"BranchFiltersModel", "low", "(II)I"⟩, 20) := ⟨⟨by decide +kernel, by decide +kernel⟩, List.mem_of_getElem? (i := 400) (by decide +kernel), List.mem_of_getElem? (i := 532) (by decide +kernel), List.mem_of_getElem? (i := 533) (by decide +kernel)⟩
theorem lw_p28 : lw_okq (⟨"BranchFiltersModel", "moved", "(II)I"⟩, 20) := ⟨⟨by decide +kernel, by decide +kernel⟩, List.mem_of_getElem? (i := 400) (by decide +kernel), List.mem_of_getElem? (i := 536) (by decide +kernel), List.mem_of_getElem? (i := 537) (by decide +kernel)⟩
theorem lw_p29 : lw_okq (⟨"BranchFiltersModel", "arm", "(I)V"⟩, 20) := ⟨⟨by decide +kernel, by decide +kernel⟩, List.mem_of_getElem? (i := 400) (by decide +kernel), List.mem_of_getElem? (i := 540) (by decide +kernel), List.mem_of_getElem? (i := 541) (by decide +kernel)⟩
theorem lw_p30 : lw_okq (⟨"BranchFiltersModel", "thumb", "(I)V"⟩, 20) := ⟨⟨by decide +kernel, by decide +kernel⟩, List.mem_of_getElem? (i := 400) (by decide +kernel), List.mem_of_getElem? (i := 544) (by decide +kernel), List.mem_of_getElem? (i := 545) (by decide +kernel)⟩
theorem lw_p31 : lw_okq (⟨"BranchFiltersModel", "power", "(I)V"⟩, 20) := ⟨⟨by decide +kernel, by decide +kernel⟩, List.mem_of_getElem? (i := 400) (by decide +kernel), List.mem_of_getElem? (i := 548) (by decide +kernel), List.mem_of_getElem? (i := 549) (by decide +kernel)⟩
def lw_privs_2 : List (MethodName × Nat) := [(⟨"BranchFilters$Filter", "replaceRiscPair", "(III)V"⟩, 11), (⟨"BranchFiltersModel", "anew", "()V"⟩, 20), (⟨"BranchFiltersModel", "refused", "(I)Z"⟩, 20), (⟨"BranchFiltersModel", "goThrough", "(Z)V"⟩, 20), (⟨"BranchFiltersModel", "change", "(III)V"⟩, 20), (⟨"BranchFiltersModel", "work", "(I)V"⟩, 20), (⟨"BranchFiltersModel", "give", "(II)V"⟩, 20), (⟨"BranchFiltersModel", "at", "(II)I"⟩, 20), (⟨"BranchFiltersModel", "delta", "(I)V"⟩, 20), (⟨"BranchFiltersModel", "jump", "(I)V"⟩, 20), (⟨"BranchFiltersModel", "place", "(I)I"⟩, 20), (⟨"BranchFiltersModel", "low", "(II)I"⟩, 20), (⟨"BranchFiltersModel", "moved", "(II)I"⟩, 20), (⟨"BranchFiltersModel", "arm", "(I)V"⟩, 20), (⟨"BranchFiltersModel", "thumb", "(I)V"⟩, 20), (⟨"BranchFiltersModel", "power", "(I)V"⟩, 20)]
theorem lw_r2 : ∀ q ∈ lw_privs_2, lw_okq q := List.forall_mem_cons.mpr ⟨lw_p16, List.forall_mem_cons.mpr ⟨lw_p17, List.forall_mem_cons.mpr ⟨lw_p18, List.forall_mem_cons.mpr ⟨lw_p19, List.forall_mem_cons.mpr ⟨lw_p20, List.forall_mem_cons.mpr ⟨lw_p21, List.forall_mem_cons.mpr ⟨lw_p22, List.forall_mem_cons.mpr ⟨lw_p23, List.forall_mem_cons.mpr ⟨lw_p24, List.forall_mem_cons.mpr ⟨lw_p25, List.forall_mem_cons.mpr ⟨lw_p26, List.forall_mem_cons.mpr ⟨lw_p27, List.forall_mem_cons.mpr ⟨lw_p28, List.forall_mem_cons.mpr ⟨lw_p29, List.forall_mem_cons.mpr ⟨lw_p30, List.forall_mem_cons.mpr ⟨lw_p31, fun _ h => absurd h List.not_mem_nil⟩⟩⟩⟩⟩⟩⟩⟩⟩⟩⟩⟩⟩⟩⟩⟩
theorem lw_p32 : lw_okq (⟨"BranchFiltersModel", "high", "(II)I"⟩, 20) := ⟨⟨by decide +kernel, by decide +kernel⟩, List.mem_of_getElem? (i := 400) (by decide +kernel), List.mem_of_getElem? (i := 552) (by decide +kernel), List.mem_of_getElem? (i := 553) (by decide +kernel)⟩
theorem lw_p33 : lw_okq (⟨"BranchFiltersModel", "setHigh", "(III)V"⟩, 20) := ⟨⟨by decide +kernel, by decide +kernel⟩, List.mem_of_getElem? (i := 400) (by decide +kernel), List.mem_of_getElem? (i := 558) (by decide +kernel), List.mem_of_getElem? (i := 559) (by decide +kernel)⟩
theorem lw_p34 : lw_okq (⟨"BranchFiltersModel", "sparc", "(I)V"⟩, 20) := ⟨⟨by decide +kernel, by decide +kernel⟩, List.mem_of_getElem? (i := 400) (by decide +kernel), List.mem_of_getElem? (i := 562) (by decide +kernel), List.mem_of_getElem? (i := 563) (by decide +kernel)⟩
theorem lw_p35 : lw_okq (⟨"BranchFiltersModel", "risc", "(I)V"⟩, 20) := ⟨⟨by decide +kernel, by decide +kernel⟩, List.mem_of_getElem? (i := 400) (by decide +kernel), List.mem_of_getElem? (i := 568) (by decide +kernel), List.mem_of_getElem? (i := 569) (by decide +kernel)⟩
theorem lw_p36 : lw_okq (⟨"BranchFiltersModel", "setLow", "(III)V"⟩, 20) := ⟨⟨by decide +kernel, by decide +kernel⟩, List.mem_of_getElem? (i := 400) (by decide +kernel), List.mem_of_getElem? (i := 572) (by decide +kernel), List.mem_of_getElem? (i := 573) (by decide +kernel)⟩
def lw_privs_3 : List (MethodName × Nat) := [(⟨"BranchFiltersModel", "high", "(II)I"⟩, 20), (⟨"BranchFiltersModel", "setHigh", "(III)V"⟩, 20), (⟨"BranchFiltersModel", "sparc", "(I)V"⟩, 20), (⟨"BranchFiltersModel", "risc", "(I)V"⟩, 20), (⟨"BranchFiltersModel", "setLow", "(III)V"⟩, 20)]
theorem lw_r3 : ∀ q ∈ lw_privs_3, lw_okq q := List.forall_mem_cons.mpr ⟨lw_p32, List.forall_mem_cons.mpr ⟨lw_p33, List.forall_mem_cons.mpr ⟨lw_p34, List.forall_mem_cons.mpr ⟨lw_p35, List.forall_mem_cons.mpr ⟨lw_p36, fun _ h => absurd h List.not_mem_nil⟩⟩⟩⟩⟩
def lw_privs : List (MethodName × Nat) := lw_privs_1 ++ (lw_privs_2 ++ (lw_privs_3))
def lw_tbl : List Cond := k2_sels lw_privs ++ tables_1
theorem lw_privs_ok : ∀ q ∈ lw_privs, lw_okq q := by
  show ∀ q ∈ lw_privs_1 ++ (lw_privs_2 ++ (lw_privs_3)), lw_okq q
  exact List.forall_mem_append.mpr ⟨lw_r1, List.forall_mem_append.mpr ⟨lw_r2, lw_r3⟩⟩
end
section
/-! how a thrown object is caught by a row of the frame's own table, behind rows that don't take it; the catch class may still be unresolved -/
theorem ct_push {p : Program} {l : Launch} {e : Env} {R : Room} {s : State} {m : MethodId} {args : Array Value} {below : List Frame} {meth : Method} {c : Code} {T : State} {locs : List Loc} {cells slots : Nat} (X : Stand p l e R s m args below meth c T locs cells slots) (g : JFrame) (a : Addr) : (T.setTop g).pushFrame (.throwing a) = T.setFrames (.throwing a :: .java g :: below) := by
  obtain ⟨g1, hfr⟩ := X.frames_eq
  rw [State.pushFrame, State.frames_setTop _ hfr, State.setTop_of_frames _ hfr, State.setFrames_setFrames]
/-- the search over the rows of a table: the rows ahead are passed, the row x takes it; only the tables may have turned warmer -/
theorem ct_go {e : Env} {s0 : State} {f : JFrame} {a : Addr} {cell : Cell} (hobj : ∀ k, cell.vm ≠ .statics k) (hk0 : ∃ k, s0.vm.classes[cell.cls]? = some k)
    (x : ExceptionTableEntry) (rest : List ExceptionTableEntry) (hx : covers x f.pc = true) (h0 : x.catchType ≠ 0) {cT : ClassId} (hl : s0.vm.ClassLinks e.platform f.method.cls x.catchType cT) (hfit : s0.vm.assignable cell.cls cT = true) :
    ∀ (pre : List ExceptionTableEntry) (S : State), s0.WarmedH S.vm → S.heap[a]? = some cell →
      (∀ y ∈ pre, covers y f.pc = false ∨ (y.catchType ≠ 0 ∧ ∃ c, s0.vm.ClassLinks e.platform f.method.cls y.catchType c ∧ s0.vm.assignable cell.cls c = false)) →
      ∃ vm', s0.WarmedH vm' ∧ ∀ (Q : Handler → Pre) (E : CtlPost) (d : Bool) (acts : List Action), wp (findHandler.go f a (pre ++ x :: rest)) Q E e d acts S ↔ Q (.found x.handlerPc) d acts (S.setVm vm') := by
  obtain ⟨k0, hk0⟩ := hk0
  have step : ∀ (y : ExceptionTableEntry) (c : ClassId) (S : State), s0.WarmedH S.vm → S.heap[a]? = some cell → covers y f.pc = true → y.catchType ≠ 0 → s0.vm.ClassLinks e.platform f.method.cls y.catchType c →
      s0.WarmedH (S.vm.noted f.method.cls y.catchType (.cls c)) ∧ ∀ (t : List ExceptionTableEntry) (Q : Handler → Pre) (E : CtlPost) (d : Bool) (acts : List Action),
        wp (findHandler.go f a (y :: t)) Q E e d acts S ↔ (if s0.vm.assignable cell.cls c = true then Q (.found y.handlerPc) d acts (S.setVm (S.vm.noted f.method.cls y.catchType (.cls c))) else wp (findHandler.go f a t) Q E e d acts (S.setVm (S.vm.noted f.method.cls y.catchType (.cls c)))) := by
    intro y c S hW hcell hy hy0 hly
    obtain ⟨dk, _, _, kt, hd, _, _, _, _, hkt, _, hopen⟩ := hly.here
    refine ⟨hW.noted hd hopen (State.rightAt_cls hly), fun t Q E d acts => ?_⟩
    have hlS := hW.classLinks hly
    obtain ⟨ha, ht⟩ := (resolveClass_links e.toSetting hlS).op (op := VmOp.resolveClass f.method.cls y.catchType) rfl
    have hal : S.vm.Alike (S.vm.noted f.method.cls y.catchType (.cls c)) := (Vm.Alike.refl S.vm).noted _ _ _
    have hal0 := hW.alike.trans hal
    obtain ⟨k1, hk1, -⟩ := hal0.2.2 _ _ hk0
    obtain ⟨k2, hk2, -⟩ := hal0.2.2 _ _ hkt
    have hasg : (S.vm.noted f.method.cls y.catchType (.cls c)).assignable cell.cls c = s0.vm.assignable cell.cls c := hal0.assignable _ _
    simp only [covers] at hy
    by_cases hq : s0.vm.assignable cell.cls c = true
    · simp [findHandler.go, hy, hy0, ha, ht, hcell, hobj, hk1, hk2, hasg, hq, VmOp.dirties, VmOp.acts]
    · have hq' : s0.vm.assignable cell.cls c = false := by simpa using hq
      simp [findHandler.go, hy, hy0, ha, ht, hcell, hobj, hk1, hk2, hasg, hq', VmOp.dirties, VmOp.acts]
  intro pre
  induction pre with
  | nil =>
    intro S hW hcell _
    obtain ⟨hW', hq⟩ := step x cT S hW hcell hx h0 hl
    refine ⟨_, hW', fun Q E d acts => ?_⟩
    rw [List.nil_append, hq, if_pos hfit]
  | cons y ys ih =>
    intro S hW hcell hpass
    have hrest := fun z hz => hpass z (List.mem_cons_of_mem y hz)
    by_cases hcov : covers y f.pc = true
    · rcases hpass y List.mem_cons_self with h | ⟨hy0, c, hly, hno⟩
      · rw [h] at hcov; cases hcov
      · obtain ⟨hW', hq⟩ := step y c S hW hcell hcov hy0 hly
        obtain ⟨vm', hW2, hq2⟩ := ih (S.setVm (S.vm.noted f.method.cls y.catchType (.cls c))) hW' hcell hrest
        refine ⟨vm', hW2, fun Q E d acts => ?_⟩
        rw [List.cons_append, hq, if_neg (by rw [hno]; decide)]
        exact hq2 Q E d acts
    · obtain ⟨vm', hW2, hq2⟩ := ih S hW hcell hrest
      refine ⟨vm', hW2, fun Q E d acts => ?_⟩
      rw [List.cons_append, W.findHandler_go_skip (by simpa using hcov)]
      exact hq2 Q E d acts
/-- caught in the method that is walked: the walk goes on at the handler, the reference alone on the stack -/
theorem ct_through {p : Program} {l : Launch} {e : Env} {R : Room} {s : State} {m : MethodId} {args : Array Value} {below : List Frame} {meth : Method} {c : Code} {T : State} {locs : List Loc} {cells slots : Nat} (X : Stand p l e R s m args below meth c T locs cells slots) (a : Addr) {g : JFrame} (hg : g.method = m)
    {cell : Cell} (hcell : T.heap[a]? = some cell) (hobj : cell.vm.isStatics = false) (hk0 : ∃ k, s.vm.classes[cell.cls]? = some k)
    (pre : List ExceptionTableEntry) (x : ExceptionTableEntry) (rest : List ExceptionTableEntry) (hsplit : c.exceptionTable.toList = pre ++ x :: rest)
    (hpass : ∀ y ∈ pre, covers y g.pc = false ∨ (y.catchType ≠ 0 ∧ ∃ c, s.vm.ClassLinks e.platform m.cls y.catchType c ∧ s.vm.assignable cell.cls c = false)) (hx : covers x g.pc = true) (h0 : x.catchType ≠ 0) {cT : ClassId} (hl : s.vm.ClassLinks e.platform m.cls x.catchType cT) (hfit : s.vm.assignable cell.cls cT = true) :
    ∃ vm', Stand p l e R s m args below meth c (T.setVm vm') locs cells slots ∧
      Steps p.tables e below ((T.setTop g).pushFrame (.throwing a)) ((T.setVm vm').setTop { g with pc := x.handlerPc, stack := [.ref a] }) := by
  subst hg
  obtain ⟨vm', hW', hq⟩ := ct_go (e := e) (s0 := s) (f := g) (a := a) (cell := cell) (VmData.ne_statics_of hobj) hk0 x rest hx h0 hl hfit pre ((T.setTop g).pushFrame (.throwing a)) X.warmed hcell hpass
  refine ⟨vm', X.noted hW', ?_⟩
  have hm : ((T.setTop g).pushFrame (.throwing a)).vm.method? g.method = some meth := X.method'
  have hfind : ∀ (Q : Handler → Pre) (E : CtlPost) (d : Bool) (acts : List Action), wp (findHandler g a) Q E e d acts ((T.setTop g).pushFrame (.throwing a)) ↔ Q (.found x.handlerPc) d acts (((T.setTop g).pushFrame (.throwing a)).setVm vm') := fun Q E d acts => by
    rw [W.findHandler_eq hm X.code, hsplit]
    exact hq Q E d acts
  have hst : ∀ r : List Frame, (stepThrowing e ((T.setTop g).pushFrame (.throwing a)) a (.java g :: r)).Is ((((T.setTop g).pushFrame (.throwing a)).setVm vm').setFrames (.java { g with pc := x.handlerPc, stack := [.ref a] } :: r)) [] := by
    intro r
    simp only [stepThrowing, searchFrame, vmDo]
    generalize hr : Sem.go _ e false [] _ = res
    obtain ⟨as, rfl, ha⟩ := Sem.eq_ok_of hr (a := Handler.found x.handlerPc) (s' := ((T.setTop g).pushFrame (.throwing a)).setVm vm') (acts' := []) (by simp [hfind _ _ _ _])
    exact ⟨rfl, ha⟩
  have h := X.here
  obtain ⟨hgo, hw⟩ := h.throwing a
  refine Steps.head hgo hw ?_
  rw [stepThread_throwing (frames_entered h.top _), (hst _).1]
  obtain ⟨g0, hr⟩ := X.frames_eq
  have hr' : (T.setVm vm').frames = .java g0 :: below := hr
  have hsf : ∀ (u : State) (F G : List Frame), ((u.setFrames F).setVm vm').setFrames G = (u.setVm vm').setFrames G := fun u F G => by
    have h1 : (u.setFrames F).setVm vm' = (u.setVm vm').setFrames F := rfl
    rw [h1, State.setFrames_setFrames]
  rw [hr, List.tail_cons, State.pushFrame, hsf, State.setTop_of_frames _ hr, hsf, State.setTop_of_frames _ hr']
  exact Steps.refl _
end
section
/-! ===== BEGIN words of one list among another's, by their places ===== -/
theorem goodIn_r {big : List Cond} (ws : List Cond) (ps : List Nat) (hp : ws = ps.filterMap (fun i => big[i]?)) (h : ws.all goodWord = true) : GoodIn big ws := by
  intro w hw
  have h1 := List.all_eq_true.mp h w hw
  rw [hp] at hw
  obtain ⟨i, -, hi⟩ := List.mem_filterMap.mp hw
  have hm : w ∈ big := by first | exact List.mem_of_getElem? hi | exact List.getElem?_mem hi
  exact ⟨hm, good_of_word h1⟩
theorem goodIn_app {big a b : List Cond} (ha : GoodIn big a) (hb : GoodIn big b) : GoodIn big (a ++ b) := fun w h => (List.mem_append.mp h).elim (ha w) (hb w)
theorem goodIn_ca {big a b : List Cond} {c : Cond} (ha : GoodIn big (c :: a)) (hb : GoodIn big b) : GoodIn big (c :: (a ++ b)) := fun w h => (List.mem_cons.mp h).elim (fun e => ha w (List.mem_cons.mpr (Or.inl e))) (fun h => (List.mem_append.mp h).elim (fun h => ha w (List.mem_cons.mpr (Or.inr h))) (hb w))
theorem goodIn_sub {big ws : List Cond} (hm : ∀ w ∈ ws, w ∈ big) (h : ws.all goodWord = true) : GoodIn big ws := fun w hw => ⟨hm w hw, good_of_word (List.all_eq_true.mp h w hw)⟩
/-! ===== END ===== -/

/-! ===== BEGIN exceptions that leave a method, and their catching by the caller (launches without stack traces) ===== -/
section VXA
/-! The laws vx_back, vx_callV, vx_callS, vx_callSW, vx_throw0, vx_throwS follow proofs of the library, with one case more: JvmDerived/Free/Laws.lean (Back.of_free), Shelf42/LK1.lean (callV, callS), Shelf/KitTraced.lean (throwNew0V, throwNewS). -/
/-- where a method has thrown q: the class by its name, the cell, what was written, the world -/
def vx_T (XC : String → State → State → Prop) (st : State) (q : Addr) (t : State) (mc ms : Nat) (free : Addr → Prop) : Prop :=
  ∃ (E : String) (ce : Cell) (L : List Loc), XC E st t ∧ t.heap[q]? = some ce ∧ ce.vm = .none ∧ st.vm.findClass E = some ce.cls ∧ st.WarmedH t.vm ∧ st.sameButNew ({ t with vm := st.vm } : State) L mc ms ∧ ∀ z ∈ L, free z.base
def vx_Q (Qc : Array Value → State → Outcome → State → Prop) (XC : String → State → State → Prop) (mc ms : Nat) (free : Addr → Prop) : Array Value → State → Outcome → State → Prop := fun a st o t =>
  (Qc a st o t ∧ ∃ L, FrameEnd st o t L mc ms ∧ ∀ q ∈ L, free q.base) ∨ ∃ q, o = .threw q ∧ vx_T XC st q t mc ms free
/-- a callee that returns or throws -/
def vx_Met (l : Launch) (y : MethodName) (ws : List Cond) (rm : Room) (Pc : Array Value → State → Prop) (Qc : Array Value → State → Outcome → State → Prop) (XC : String → State → State → Prop) (mc ms : Nat) (free : Addr → Prop) : Prop :=
  MetFree l y (headSpec ws rm) Pc (fun _ _ _ _ _ => True) (vx_Q Qc XC mc ms free)
def vx_Post (XC : String → State → State → Prop) (mc ms : Nat) (free : Addr → Prop) : Pt → Array Value → Addr → Pt → Prop := fun A a q B =>
  ∃ (g : JFrame) (mk : MethodId) (t : State) (L : List Loc) (E : String) (ce : Cell), B.U.heap = t.heap ∧ B.U.vm = t.vm ∧ XC E (A.U.calling g mk a) t ∧ t.heap[q]? = some ce ∧ ce.vm = .none ∧ A.U.vm.findClass E = some ce.cls ∧ B.locs = A.locs ++ L ∧ (∀ z ∈ L, free z.base) ∧ B.cells = A.cells + mc ∧ B.slots = A.slots + ms
def vx_Back (l : Launch) (R : Room) (p : Program) (e : Env) (below : List Frame) (s : State) (sargs : Array Value) (y : MethodName) (len W9 : Nat)
    (Pre : Pt → Array Value → Prop) (Post : Pt → Array Value → Option Value → Pt → Prop) (PostX : Pt → Array Value → Addr → Pt → Prop) : Prop :=
  ∀ (m : MethodId) (meth : Method) (c : Code) (A : Pt) (g : JFrame) (ig : Instr) (mk : MethodId) (a : Array Value),
    Stand p l e R s m sargs below meth c A.U A.locs A.cells A.slots → g.method = m → g.locals.size = c.maxLocals → decode c.code g.pc = .ok (ig, len) →
    2 * g.monitorRoom + (g.stack.map fun v => v.category).sum ≤ W9 → A.U.methodNamed? y = some mk → Pre A a →
    (∃ (v : Option Value) (B : Pt), Stand p l e R s m sargs below meth c B.U B.locs B.cells B.slots ∧ Post A a v B ∧
      Steps p.tables e below (doInvoke e (A.U.setTop g) [] mk a).1 (B.U.setTop { g with pc := g.pc + len, stack := v.toList ++ g.stack })) ∨
    (∃ (q : Addr) (B : Pt), Stand p l e R s m sargs below meth c B.U B.locs B.cells B.slots ∧ PostX A a q B ∧
      Steps p.tables e below (doInvoke e (A.U.setTop g) [] mk a).1 ((B.U.setTop g).pushFrame (.throwing q)))
section Payer
variable {l : Launch} {R : Room} {p : Program} {e : Env} {below : List Frame} {s : State} {sargs : Array Value} {y : MethodName} {len W9 : Nat}
theorem vx_back {ws : List Cond} {rm : Room} {Pc : Array Value → State → Prop} {Qc : Array Value → State → Outcome → State → Prop} {XC : String → State → State → Prop} {mc ms : Nat} {free : Addr → Prop} {bytes : ByteArray} {maxL : Nat} {ret : Option FieldType}
    (hM : vx_Met l y ws rm Pc Qc XC mc ms free) (hblind : FrameBlind Pc) (hrc : rm.cells = mc) (hrs : rm.slots = ms)
    (hframes : rm.frames + 1 ≤ R.frames) (hlocals : W9 + (maxL + 11) + rm.locals ≤ R.locals)
    (hws : ∀ w ∈ ws, ∀ a' U, s.WarmedH U.vm → w.before a' U = true) (hcode : Cond.code y bytes maxL ret ∈ ws) (hinit : ∀ a' U, s.WarmedH U.vm → (Cond.initialized y.cls).before a' U = true) :
    vx_Back l R p e below s sargs y len W9 (PreOf R mc ms Pc) (PostOf Qc mc ms free) (vx_Post XC mc ms free) := by
  intro m meth c A g ig mk a X hg hsize hdg hW hn hp
  have h1 : (headSpec ws rm).pre.before a A.U = true := atoms_intro fun w hw => hws w hw _ _ X.warmed
  have h2 : (Cond.code y bytes maxL ret).before a A.U = true := hws _ hcode _ _ X.warmed
  have h3 : (Cond.initialized y.cls).before a A.U = true := hinit _ _ X.warmed
  have h4 : A.cells + (headSpec ws rm).room.cells ≤ R.cells := by rw [show (headSpec ws rm).room.cells = mc from hrc]; exact hp.1
  have h5 : A.slots + (headSpec ws rm).room.slots ≤ R.slots := by rw [show (headSpec ws rm).room.slots = ms from hrs]; exact hp.2.1
  have hPc : Pc a (A.U.calling g mk a) := hblind _ _ _ _ hp.2.2
  obtain ⟨U, Ls, c0, s0⟩ := A
  dsimp only [Pt.U, Pt.locs, Pt.cells, Pt.slots] at h1 h2 h3 h4 h5 X hn hPc ⊢
  obtain ⟨methY, cY, hmY, hcY, -, hlY, -, -, -, -⟩ := Cond.code_spec hn h2
  obtain ⟨kY, hkY, -⟩ := className_of_methodNamed hn
  have hinitY : kY.init = .initialized := Cond.initialized_spec (findClass_of_methodNamed hn) hkY h3
  have h : At U g.method c below := by rw [hg]; exact X.here
  have hlocals9 : W9 + (maxL + 11) + (headSpec ws rm).room.locals ≤ R.locals := hlocals
  have happ : (headSpec ws rm).appliesLoose y e.platform (U.calling g mk a) = true :=
    Spec.appliesLoose_calling (g := g) h hdg hn hkY hinitY
      (X.room_calling (g := g) (R' := (headSpec ws rm).room) hsize hmY hcY hframes (by rw [hlY]; omega) h4 h5) h1
  obtain ⟨mid, hmid⟩ := h.above
  have hfr : (U.setTop g).frames = (.java g :: mid) ++ below := by rw [State.frames_setTop' g h.top, hmid]; rfl
  obtain ⟨o, s₂, hsteps, -, hend, hq⟩ := Steps.callFree hM p X.admits X.cas X.clock (acts := []) hfr happ hPc trivial
  have hq' : vx_Q Qc XC mc ms free a (U.calling g mk a) o s₂ := hq
  rw [State.frames_setTop' g h.top] at hend
  obtain ⟨g₀, hg0⟩ := Option.isSome_iff_exists.mp h.top
  obtain ⟨r, hr⟩ := State.topJava?_eq_some.mp hg0
  have hr' : (({ U with heap := s₂.heap, slotsUsed := s₂.slotsUsed } : State).setVm s₂.vm).frames = .java g₀ :: r := hr
  rcases hq' with ⟨hqc, L, hfe, hL⟩ | ⟨q, rfl, E, ce, L, hx, hce, hcv, hcl, hW₂, hsm, hL⟩
  · obtain ⟨⟨v, rfl⟩, hW₂, e2, q2, q3, q4, q5, q6⟩ := id hfe
    have e3 : s₂ = ({ (U.calling g mk a).setFrames s₂.frames with heap := s₂.heap, slotsUsed := s₂.slotsUsed } : State).setVm s₂.vm := by
      have : s₂ = ({ s₂ with vm := (U.calling g mk a).vm } : State).setVm s₂.vm := rfl
      rw [e2] at this
      exact this
    obtain ⟨c₂, i₂, len₂, hc₂, hd₂, hf₂⟩ := hend
    have hW' : U.WarmedH s₂.vm := hW₂
    have hcc : c₂ = c := by
      have h1 : s₂.code? g.method = U.code? g.method := by
        rw [State.code?_eq, State.code?_eq, hW'.alike.method?]
      exact Option.some.inj (hc₂.symm.trans (h1.trans h.code))
    subst hcc
    have hlen : len₂ = len := by rw [hdg] at hd₂; cases hd₂; rfl
    subst hlen
    have hs₂ : s₂ = (({ U with heap := s₂.heap, slotsUsed := s₂.slotsUsed } : State).setVm s₂.vm).setTop { g with pc := g.pc + len₂, stack := v.toList ++ g.stack } := by
      refine e3.trans ?_
      rw [hf₂, State.calling_eq h.top, State.setFrames_setFrames, State.setTop_of_frames _ hr', hr]
      rfl
    have hsame : U.sameButNew ({ U with heap := s₂.heap, slotsUsed := s₂.slotsUsed } : State) L mc ms := by
      refine ⟨?_, q2, q3, q4, q5, q6⟩
      obtain ⟨t, ht, -⟩ := State.frames_cons hr
      show ({ U with heap := s₂.heap, slotsUsed := s₂.slotsUsed } : State) = { U.setFrames U.frames with heap := s₂.heap, slotsUsed := s₂.slotsUsed }
      rw [State.setFrames_self ht]
    subst hg
    refine Or.inl ⟨v, ⟨(({ U with heap := s₂.heap, slotsUsed := s₂.slotsUsed } : State).setVm s₂.vm), Ls ++ L, c0 + mc, s0 + ms⟩,
      ⟨X.admits, X.cas, X.clock, X.frames, X.room, X.hears, X.method, X.code, (X.here.setHeapUsed s₂.heap s₂.slotsUsed).setVm hW'.alike, X.tail, State.WarmedH.trans X.warmed hW', X.limits, X.bytes, X.same.trans (hsame.setVm s.vm)⟩,
      ⟨g, mk, s₂, L, rfl, rfl, hqc, rfl, hL, rfl, rfl⟩, ?_⟩
    show Steps p.tables e below _ ((({ U with heap := s₂.heap, slotsUsed := s₂.slotsUsed } : State).setVm s₂.vm).setTop { g with pc := g.pc + len₂, stack := v.toList ++ g.stack })
    rw [← hs₂]
    exact hsteps
  · obtain ⟨e2, q2, q3, q4, q5, q6⟩ := id hsm
    have e3 : s₂ = ({ (U.calling g mk a).setFrames s₂.frames with heap := s₂.heap, slotsUsed := s₂.slotsUsed } : State).setVm s₂.vm := by
      have : s₂ = ({ s₂ with vm := (U.calling g mk a).vm } : State).setVm s₂.vm := rfl
      rw [e2] at this
      exact this
    have hf₂ : s₂.frames = .throwing q :: .java g :: U.frames.tail := hend
    have hW' : U.WarmedH s₂.vm := hW₂
    have hs₂ : s₂ = ((({ U with heap := s₂.heap, slotsUsed := s₂.slotsUsed } : State).setVm s₂.vm).setTop g).pushFrame (.throwing q) := by
      refine e3.trans ?_
      rw [hf₂, State.calling_eq h.top, State.setFrames_setFrames, State.pushFrame, State.frames_setTop _ hr', State.setTop_of_frames _ hr', State.setFrames_setFrames, hr]
      rfl
    have hsame : U.sameButNew ({ U with heap := s₂.heap, slotsUsed := s₂.slotsUsed } : State) L mc ms := by
      refine ⟨?_, q2, q3, q4, q5, q6⟩
      obtain ⟨t, ht, -⟩ := State.frames_cons hr
      show ({ U with heap := s₂.heap, slotsUsed := s₂.slotsUsed } : State) = { U.setFrames U.frames with heap := s₂.heap, slotsUsed := s₂.slotsUsed }
      rw [State.setFrames_self ht]
    subst hg
    refine Or.inr ⟨q, ⟨(({ U with heap := s₂.heap, slotsUsed := s₂.slotsUsed } : State).setVm s₂.vm), Ls ++ L, c0 + mc, s0 + ms⟩,
      ⟨X.admits, X.cas, X.clock, X.frames, X.room, X.hears, X.method, X.code, (X.here.setHeapUsed s₂.heap s₂.slotsUsed).setVm hW'.alike, X.tail, State.WarmedH.trans X.warmed hW', X.limits, X.bytes, X.same.trans (hsame.setVm s.vm)⟩,
      ⟨g, mk, s₂, L, E, ce, rfl, rfl, hx, hce, hcv, hcl, rfl, hL, rfl, rfl⟩, ?_⟩
    show Steps p.tables e below _ (((({ U with heap := s₂.heap, slotsUsed := s₂.slotsUsed } : State).setVm s₂.vm).setTop g).pushFrame (.throwing q))
    rw [← hs₂]
    exact hsteps
end Payer
section Calls
variable {p : Program} {l : Launch} {e : Env} {R : Room} {s : State} {m : MethodId} {args : Array Value} {below : List Frame} {meth : Method} {c : Code} {T : State} {locs : List Loc} {cells slots : Nat}
theorem vx_callV (X : Stand p l e R s m args below meth c T locs cells slots) (hexec : p.tables.exec = Jvm.exec) {own C : String} {index : Nat} {y : MethodName} {bytes : ByteArray} {maxL : Nat} {ret : Option FieldType}
    (hown : s.vm.findClass own = some m.cls) (hlink : (Cond.methodLink own index y).before args s = true) (hinst : (Cond.instanceMethod y).before args s = true) (hsel : (Cond.selects C y y).before args s = true)
    (hcode : (Cond.code y bytes maxL ret).before args s = true) (hy : y.cls ≠ "java/lang/invoke/MethodHandle" ∧ y.cls ≠ "java/lang/invoke/VarHandle")
    {W9 : Nat} {Pre : Pt → Array Value → Prop} {Post : Pt → Array Value → Option Value → Pt → Prop} {PostX : Pt → Array Value → Addr → Pt → Prop} (hK : vx_Back l R p e below s args y 3 W9 Pre Post PostX)
    {b : Addr} {cellB : Cell} (hcell : T.heap[b]? = some cellB) (hobj : cellB.vm.isStatics = false) (hcls : s.vm.findClass C = some cellB.cls)
    {g : JFrame} (hg : g.method = m) (hsize : g.locals.size = c.maxLocals) {argsL rest : List Value} (hlen : ∀ sig, parseMethodDescriptor y.desc = some sig → argsL.length = sig.parameters.length)
    (hstack : g.stack = argsL.reverse ++ .ref b :: rest) (hW : 2 * g.monitorRoom + (rest.map fun v => v.category).sum ≤ W9) (hdg : decode c.code g.pc = .ok (.invokevirtual index, 3))
    (hpre : ∀ vm₁, s.WarmedH vm₁ → Pre ⟨T.setVm vm₁, locs, cells, slots⟩ (Value.ref b :: argsL).toArray) :
    (∃ (v : Option Value) (vm₁ : Vm) (B : Pt), s.WarmedH vm₁ ∧ Stand p l e R s m args below meth c B.U B.locs B.cells B.slots ∧ Post ⟨T.setVm vm₁, locs, cells, slots⟩ (Value.ref b :: argsL).toArray v B ∧
      ∀ target, Steps p.tables e below (B.U.setTop { g with pc := g.pc + 3, stack := v.toList ++ rest }) target → Steps p.tables e below (T.setTop g) target) ∨
    (∃ (q : Addr) (vm₁ : Vm) (B : Pt), s.WarmedH vm₁ ∧ Stand p l e R s m args below meth c B.U B.locs B.cells B.slots ∧ PostX ⟨T.setVm vm₁, locs, cells, slots⟩ (Value.ref b :: argsL).toArray q B ∧
      Steps p.tables e below (T.setTop g) ((B.U.setTop { g with stack := rest }).pushFrame (.throwing q))) := by
  obtain ⟨mk, methM, hnamed, hmethM, hstM, habM⟩ := Cond.instanceMethod_spec hinst
  obtain ⟨methM', cM, hmethM', -, -, -, -, -, -, hsigM⟩ := Cond.code_spec hnamed hcode
  cases hmethM.symm.trans hmethM'
  obtain ⟨c2, r2, m2, q1, q2, q3, q4, kP, hkP, hkPi⟩ := Cond.selects_spec hsel
  cases hcls.symm.trans q1
  cases (State.methodFound?_of_named hnamed hy).symm.trans q2
  cases hnamed.symm.trans q3
  have hselP : selectMethod e.platform s.vm cellB.cls mk = .method mk := by rw [Launch.admits_selectMethod X.admits]; exact q4
  obtain ⟨vm₁, X₁, hstep₁⟩ := X.invokevirtual hexec hown hlink hnamed hmethM hstM hkP hkPi hy (a := b) (cell := cellB) hcell
    (fun z h => by rw [h] at hobj; cases hobj) hselP hmethM habM hkP hkPi (g := g) hg (argsL := argsL) (rest := rest) (hlen _ hsigM) hstack hdg
  rcases hK m meth c ⟨T.setVm vm₁, locs, cells, slots⟩ { g with stack := rest } (.invokevirtual index) mk (Value.ref b :: argsL).toArray X₁ hg hsize hdg hW (X₁.named hnamed) (hpre vm₁ X₁.warmed) with ⟨v, B, X', hpost, hsteps⟩ | ⟨q, B, X', hpost, hsteps⟩
  · exact Or.inl ⟨v, vm₁, B, X₁.warmed, X', hpost, fun target h => hstep₁ _ fun acts => by rw [doInvoke_state]; exact hsteps.trans h⟩
  · exact Or.inr ⟨q, vm₁, B, X₁.warmed, X', hpost, hstep₁ _ fun acts => by rw [doInvoke_state]; exact hsteps⟩
theorem vx_callS (X : Stand p l e R s m args below meth c T locs cells slots) (hexec : p.tables.exec = Jvm.exec) {own : String} {index : Nat} {y : MethodName} {bytes : ByteArray} {maxL : Nat} {ret : Option FieldType}
    (hown : s.vm.findClass own = some m.cls) (hlink : (Cond.methodLink own index y).before args s = true) (hstat : (Cond.static y).before args s = true) (hinit : (Cond.initialized y.cls).before args s = true)
    (hcode : (Cond.code y bytes maxL ret).before args s = true) (hy : y.cls ≠ "java/lang/invoke/MethodHandle" ∧ y.cls ≠ "java/lang/invoke/VarHandle")
    {W9 : Nat} {Pre : Pt → Array Value → Prop} {Post : Pt → Array Value → Option Value → Pt → Prop} {PostX : Pt → Array Value → Addr → Pt → Prop} (hK : vx_Back l R p e below s args y 3 W9 Pre Post PostX)
    {g : JFrame} (hg : g.method = m) (hsize : g.locals.size = c.maxLocals) {argsL rest : List Value} (hlen : ∀ sig, parseMethodDescriptor y.desc = some sig → argsL.length = sig.parameters.length)
    (hstack : g.stack = argsL.reverse ++ rest) (hW : 2 * g.monitorRoom + (rest.map fun v => v.category).sum ≤ W9) (hdg : decode c.code g.pc = .ok (.invokestatic index, 3))
    (hpre : ∀ vm₁, s.WarmedH vm₁ → Pre ⟨T.setVm vm₁, locs, cells, slots⟩ argsL.toArray) :
    (∃ (v : Option Value) (vm₁ : Vm) (B : Pt), s.WarmedH vm₁ ∧ Stand p l e R s m args below meth c B.U B.locs B.cells B.slots ∧ Post ⟨T.setVm vm₁, locs, cells, slots⟩ argsL.toArray v B ∧
      ∀ target, Steps p.tables e below (B.U.setTop { g with pc := g.pc + 3, stack := v.toList ++ rest }) target → Steps p.tables e below (T.setTop g) target) ∨
    (∃ (q : Addr) (vm₁ : Vm) (B : Pt), s.WarmedH vm₁ ∧ Stand p l e R s m args below meth c B.U B.locs B.cells B.slots ∧ PostX ⟨T.setVm vm₁, locs, cells, slots⟩ argsL.toArray q B ∧
      Steps p.tables e below (T.setTop g) ((B.U.setTop { g with stack := rest }).pushFrame (.throwing q))) := by
  obtain ⟨mk, hnamed⟩ := Cond.code_named hcode
  obtain ⟨methM, cM, hmethM, -, -, -, -, -, -, hsigM⟩ := Cond.code_spec hnamed hcode
  have hstatic : methM.isStatic = true := Cond.static_spec hnamed hmethM hstat
  obtain ⟨kP, hkP, -⟩ := className_of_methodNamed hnamed
  have hinitP : kP.init = .initialized := Cond.initialized_spec (findClass_of_methodNamed hnamed) hkP hinit
  obtain ⟨vm₁, X₁, hstep₁⟩ := X.invokestatic hexec hown hlink hnamed hmethM hstatic hkP hinitP hy (g := g) hg (argsL := argsL) (rest := rest) (hlen _ hsigM) hstack hdg
  rcases hK m meth c ⟨T.setVm vm₁, locs, cells, slots⟩ { g with stack := rest } (.invokestatic index) mk argsL.toArray X₁ hg hsize hdg hW (X₁.named hnamed) (hpre vm₁ X₁.warmed) with ⟨v, B, X', hpost, hsteps⟩ | ⟨q, B, X', hpost, hsteps⟩
  · exact Or.inl ⟨v, vm₁, B, X₁.warmed, X', hpost, fun target h => hstep₁ _ fun acts => by rw [doInvoke_state]; exact hsteps.trans h⟩
  · exact Or.inr ⟨q, vm₁, B, X₁.warmed, X', hpost, hstep₁ _ fun acts => by rw [doInvoke_state]; exact hsteps⟩
end Calls
theorem vx_cls {s : State} {T : State} {vm₁ : Vm} {E : String} {k : ClassId} (hW : s.WarmedH vm₁) (h : (T.setVm vm₁).vm.findClass E = some k) : s.vm.findClass E = some k := by
  have h1 : vm₁.findClass E = some k := h
  rw [hW.alike.findClass] at h1
  exact h1
/-- the method's frame g, with q thrown over it -/
def vx_W (p : Program) (l : Launch) (e : Env) (R : Room) (s : State) (m : MethodId) (args : Array Value) (below : List Frame) (meth : Method) (c : Code) (H : Heap) (locs : List Loc) (cells slots : Nat) (Q : State → Prop) (g : JFrame) (q : Addr) : Prop :=
  ∀ T : State, T.heap = H → Stand p l e R s m args below meth c T locs cells slots → ∃ t, Steps p.tables e below ((T.setTop g).pushFrame (.throwing q)) t ∧ Q t
def vx_Run (p : Program) (l : Launch) (e : Env) (R : Room) (s : State) (m : MethodId) (args : Array Value) (below : List Frame) (meth : Method) (c : Code) (H : Heap) (locs : List Loc) (cells slots mc ms : Nat) (g : JFrame) (rest : List Value) (Qa : State → Outcome → State → Prop) (XC : String → State → State → Prop) (free : Addr → Prop) : Prop :=
  ∀ T : State, T.heap = H → Stand p l e R s m args below meth c T locs cells slots →
    (∃ (v : Option Value) (st₀ t T' : State) (L : List Loc), st₀.heap = H ∧ Stand p l e R s m args below meth c T' (locs ++ L) (cells + mc) (slots + ms) ∧ (∀ q ∈ L, free q.base) ∧ T'.heap = t.heap ∧ T'.vm = t.vm ∧ Qa st₀ (.returned v) t ∧
      Goes p e below T g T' { g with pc := g.pc + 3, stack := v.toList ++ rest }) ∨
    (∃ (q : Addr) (st₀ t T' : State) (L : List Loc) (E : String) (ce : Cell), st₀.heap = H ∧ Stand p l e R s m args below meth c T' (locs ++ L) (cells + mc) (slots + ms) ∧ (∀ z ∈ L, free z.base) ∧ T'.heap = t.heap ∧ T'.vm = t.vm ∧ XC E st₀ t ∧ t.heap[q]? = some ce ∧ ce.vm = .none ∧ s.vm.findClass E = some ce.cls ∧
      Steps p.tables e below (T.setTop g) ((T'.setTop { g with stack := rest }).pushFrame (.throwing q)))
def vx_X {S : Type} (px : S → Prop) (B : String → S → State → Prop) (A : Nat → Prop) : String → State → State → Prop := fun E st t => ∃ u : S, px u ∧ B E u t ∧ va_F A st t
section Runs
variable {p : Program} {l : Launch} {e : Env} {R : Room} {s : State} {m : MethodId} {args : Array Value} {below : List Frame} {meth : Method} {c : Code} {H : Heap} {locs : List Loc} {cells slots : Nat}
variable {y : MethodName} {bytes cc : ByteArray} {maxL nL mc ms n index : Nat} {ret : Option FieldType} {ws : List Cond} {rm : Room} {Pc : Array Value → State → Prop} {Qc : Array Value → State → Outcome → State → Prop} {XC : String → State → State → Prop} {free : Addr → Prop} {Ts : List Cond} {own C : String} {b : Addr} {As rest : List Value} {g : JFrame}
theorem vx_callBack (cb : CallB R s args own index y bytes maxL ret ws rm mc ms n) (hM : vx_Met l y ws rm Pc Qc XC mc ms free) (hbl : FrameBlind Pc) : vx_Back l R p e below s args y 3 8 (PreOf R mc ms Pc) (PostOf Qc mc ms free) (vx_Post XC mc ms free) := by
  obtain ⟨hrc, hrs, hfr, hlo, hws, hcw, -, hini, -⟩ := cb
  exact vx_back (bytes := bytes) (maxL := maxL) (ret := ret) hM hbl hrc hrs hfr hlo hws hcw (fun a' U hW => word_at hW (Or.inl (by first | rfl | simp [Cond.onTables, Cond.keeps, Cond.steady])) hini)
theorem vx_runV (S : CallFix p m c cc nL s args Ts own) (hM : vx_Met l y ws rm Pc Qc XC mc ms free) (cw : CallW R s args own C index y bytes maxL ret ws rm mc ms n) (hp : PreV s H C b Pc As)
    (hg : g.method = m) (hn : As.length = n) (hsize : g.locals.size = nL) (hstack : g.stack = As.reverse ++ .ref b :: rest) (hW : 2 * g.monitorRoom + (rest.map fun v => v.category).sum ≤ 8) (hdg : decode cc g.pc = .ok (.invokevirtual index, 3)) (hf : cells + mc ≤ R.cells ∧ slots + ms ≤ R.slots) :
    vx_Run p l e R s m args below meth c H locs cells slots mc ms g rest (Qc (Value.ref b :: As).toArray) XC free := by
  have hK : vx_Back l R p e below s args y 3 8 (PreOf R mc ms Pc) (PostOf Qc mc ms free) (vx_Post XC mc ms free) := vx_callBack cw.1 hM hp.1
  obtain ⟨⟨-, -, -, -, -, -, hcode, -, hy, hlen, hl⟩, hin, hse⟩ := cw
  obtain ⟨hx, hb, hml, ho, -⟩ := S
  obtain ⟨-, ⟨cellB, hcB, hoB, hclB⟩, hPc⟩ := hp
  intro T hT X
  rcases vx_callV X hx (C := C) (bytes := bytes) (maxL := maxL) (ret := ret) ho hl hin hse hcode hy hK (by rw [hT]; exact hcB) hoB hclB hg (hsize.trans hml.symm) (argsL := As) (rest := rest) (fun sig h => hn.trans (hlen sig h)) hstack hW (by rw [hb]; exact hdg)
    (fun vm₁ hW₁ => ⟨hf.1, hf.2, hPc (T.setVm vm₁) hT hW₁⟩) with ⟨v, vm₁, ⟨U', l2, c2, s2⟩, hW₁, X', ⟨g', mk, t, L, e1, e2, hq, h1, hL, h2, h3⟩, st⟩ | ⟨q, vm₁, ⟨U', l2, c2, s2⟩, hW₁, X', ⟨g', mk, t, L, E, ce, e1, e2, hq, hce, hcv, hcl, h1, hL, h2, h3⟩, st⟩
  · dsimp only [Pt.U, Pt.locs, Pt.cells, Pt.slots] at X' e1 e2 h1 h2 h3 st
    subst h1; subst h2; subst h3
    exact Or.inl ⟨v, (T.setVm vm₁).calling g' mk (Value.ref b :: As).toArray, t, U', L, hT, X', hL, e1, e2, hq, st⟩
  · dsimp only [Pt.U, Pt.locs, Pt.cells, Pt.slots] at X' e1 e2 h1 h2 h3 st hcl
    subst h1; subst h2; subst h3
    exact Or.inr ⟨q, (T.setVm vm₁).calling g' mk (Value.ref b :: As).toArray, t, U', L, E, ce, hT, X', hL, e1, e2, hq, hce, hcv, vx_cls hW₁ hcl, st⟩
theorem vx_runS (S : CallFix p m c cc nL s args Ts own) (hM : vx_Met l y ws rm Pc Qc XC mc ms free) (cw : CallB R s args own index y bytes maxL ret ws rm mc ms n ∧ (Cond.static y).before args s = true) (hp : PreS s H Pc As)
    (hg : g.method = m) (hn : As.length = n) (hsize : g.locals.size = nL) (hstack : g.stack = As.reverse ++ rest) (hW : 2 * g.monitorRoom + (rest.map fun v => v.category).sum ≤ 8) (hdg : decode cc g.pc = .ok (.invokestatic index, 3)) (hf : cells + mc ≤ R.cells ∧ slots + ms ≤ R.slots) :
    vx_Run p l e R s m args below meth c H locs cells slots mc ms g rest (Qc As.toArray) XC free := by
  have hK : vx_Back l R p e below s args y 3 8 (PreOf R mc ms Pc) (PostOf Qc mc ms free) (vx_Post XC mc ms free) := vx_callBack cw.1 hM hp.1
  obtain ⟨⟨-, -, -, -, -, -, hcode, hini, hy, hlen, hl⟩, hstt⟩ := cw
  obtain ⟨hx, hb, hml, ho, -⟩ := S
  intro T hT X
  rcases vx_callS X hx (bytes := bytes) (maxL := maxL) (ret := ret) ho hl hstt hini hcode hy hK hg (hsize.trans hml.symm) (argsL := As) (rest := rest) (fun sig h => hn.trans (hlen sig h)) hstack hW (by rw [hb]; exact hdg)
    (fun vm₁ hW₁ => ⟨hf.1, hf.2, hp.2 (T.setVm vm₁) hT hW₁⟩) with ⟨v, vm₁, ⟨U', l2, c2, s2⟩, hW₁, X', ⟨g', mk, t, L, e1, e2, hq, h1, hL, h2, h3⟩, st⟩ | ⟨q, vm₁, ⟨U', l2, c2, s2⟩, hW₁, X', ⟨g', mk, t, L, E, ce, e1, e2, hq, hce, hcv, hcl, h1, hL, h2, h3⟩, st⟩
  · dsimp only [Pt.U, Pt.locs, Pt.cells, Pt.slots] at X' e1 e2 h1 h2 h3 st
    subst h1; subst h2; subst h3
    exact Or.inl ⟨v, (T.setVm vm₁).calling g' mk As.toArray, t, U', L, hT, X', hL, e1, e2, hq, st⟩
  · dsimp only [Pt.U, Pt.locs, Pt.cells, Pt.slots] at X' e1 e2 h1 h2 h3 st hcl
    subst h1; subst h2; subst h3
    exact Or.inr ⟨q, (T.setVm vm₁).calling g' mk As.toArray, t, U', L, E, ce, hT, X', hL, e1, e2, hq, hce, hcv, vx_cls hW₁ hcl, st⟩
end Runs
section Rows
variable {p : Program} {l : Launch} {e : Env} {R : Room} {s : State} {m : MethodId} {args : Array Value} {below : List Frame} {meth : Method} {c : Code} {H : Heap} {locs : List Loc} {cells slots : Nat} {Q : State → Prop}
variable {mc ms : Nat} {free : Addr → Prop} {A0 A1 : Nat → Prop} {H0 : Heap} {a : Array Value} {pc : Nat} {ls : Array Slot} {st0 rest : List Value}
theorem vx_keep {st₀ t T' : State} {L : List Loc} (h0 : st₀.heap = H) (e1 : T'.heap = t.heap) (hS : va_S A0 H0 H locs) (hA : ∀ q, q < H.size → A1 q → A0 q) (hf : ∀ q, free q → A0 q) (hL : ∀ q ∈ L, free q.base) (hF : va_F A1 st₀ t) :
    H.size ≤ T'.heap.size ∧ (∀ q : Nat, q < H.size → ¬ A1 q → T'.heap[q]? = H[q]?) ∧ va_S A0 H0 T'.heap (locs ++ L) := by
  obtain ⟨hz, hk⟩ := hF
  rw [h0] at hz hk
  exact ⟨by rw [e1]; exact hz, fun q h1 h2 => by rw [e1]; exact hk q h1 h2,
    ⟨Nat.le_trans hS.1 (by rw [e1]; exact hz), fun q h1 h2 => by rw [e1, hk q (Nat.lt_of_lt_of_le h1 hS.1) (fun z => h2 (hA q (Nat.lt_of_lt_of_le h1 hS.1) z))]; exact hS.2.1 q h1 h2, fun q hq => by
      rcases List.mem_append.mp hq with h | h
      · exact hS.2.2 q h
      · exact hf _ (hL q h)⟩⟩
theorem vx_calli {S SX : Type} {post : Int32 → S → Prop} {px : SX → Prop} {B : S → State → Prop} {BX : String → SX → State → Prop} {AX : Nat → Prop} (hr : vx_Run p l e R s m args below meth c H locs cells slots mc ms (F0 m pc ls st0) rest (va_Qi post B A1 a) (vx_X px BX AX) free) (hS : va_S A0 H0 H locs) (hA : ∀ q, q < H.size → A1 q → A0 q) (hf : ∀ q, free q → A0 q) (hAX : ∀ q, q < H.size → AX q → A0 q)
    (kx : ∀ (E : String) (ce : Cell) (q9 : Addr) (u : SX) (t : State) (H1 : Heap) (locs1 : List Loc), t.heap = H1 → s.vm.Alike t.vm → px u → BX E u t → H.size ≤ H1.size → (∀ q : Nat, q < H.size → ¬ AX q → H1[q]? = H[q]?) → va_S A0 H0 H1 locs1 → H1[q9]? = some ce → ce.vm = .none → s.vm.findClass E = some ce.cls → vx_W p l e R s m args below meth c H1 locs1 (cells + mc) (slots + ms) Q (F0 m pc ls rest) q9)
    (kk : ∀ (r : Int32) (u : S) (t : State) (H1 : Heap) (locs1 : List Loc), t.heap = H1 → s.vm.Alike t.vm → post r u → B u t → H.size ≤ H1.size → (∀ q : Nat, q < H.size → ¬ A1 q → H1[q]? = H[q]?) → va_S A0 H0 H1 locs1 → W p l e R s m args below meth c H1 locs1 (cells + mc) (slots + ms) Q (F0 m (pc + 3) ls (.int r :: rest))) : W p l e R s m args below meth c H locs cells slots Q (F0 m pc ls st0) := by
  intro T hT X
  rcases hr T hT X with ⟨v, st₀, t, T', L, h0, X', hL, e1, e2, ⟨⟨r, u, hv, hp, hb⟩, hF⟩, st⟩ | ⟨q, st₀, t, T', L, E, ce, h0, X', hL, e1, e2, ⟨u, hp, hb, hF⟩, hce, hcv, hcl, st⟩
  · cases hv
    obtain ⟨k1, k2, k3⟩ := vx_keep h0 e1 hS hA hf hL hF
    obtain ⟨t2, a1, b1⟩ := kk r u t T'.heap (locs ++ L) e1.symm (by rw [← e2]; exact X'.warmed.alike) hp hb k1 k2 k3 T' rfl X'
    exact ⟨t2, st t2 a1, b1⟩
  · obtain ⟨k1, k2, k3⟩ := vx_keep h0 e1 hS hAX hf hL hF
    obtain ⟨t2, a1, b1⟩ := kx E ce q u t T'.heap (locs ++ L) e1.symm (by rw [← e2]; exact X'.warmed.alike) hp hb k1 k2 k3 (by rw [e1]; exact hce) hcv hcl T' rfl X'
    exact ⟨t2, st.trans a1, b1⟩
theorem vx_calll {S SX : Type} {post : Int64 → S → Prop} {px : SX → Prop} {B : S → State → Prop} {BX : String → SX → State → Prop} {AX : Nat → Prop} (hr : vx_Run p l e R s m args below meth c H locs cells slots mc ms (F0 m pc ls st0) rest (va_Ql post B A1 a) (vx_X px BX AX) free) (hS : va_S A0 H0 H locs) (hA : ∀ q, q < H.size → A1 q → A0 q) (hf : ∀ q, free q → A0 q) (hAX : ∀ q, q < H.size → AX q → A0 q)
    (kx : ∀ (E : String) (ce : Cell) (q9 : Addr) (u : SX) (t : State) (H1 : Heap) (locs1 : List Loc), t.heap = H1 → s.vm.Alike t.vm → px u → BX E u t → H.size ≤ H1.size → (∀ q : Nat, q < H.size → ¬ AX q → H1[q]? = H[q]?) → va_S A0 H0 H1 locs1 → H1[q9]? = some ce → ce.vm = .none → s.vm.findClass E = some ce.cls → vx_W p l e R s m args below meth c H1 locs1 (cells + mc) (slots + ms) Q (F0 m pc ls rest) q9)
    (kk : ∀ (r : Int64) (u : S) (t : State) (H1 : Heap) (locs1 : List Loc), t.heap = H1 → s.vm.Alike t.vm → post r u → B u t → H.size ≤ H1.size → (∀ q : Nat, q < H.size → ¬ A1 q → H1[q]? = H[q]?) → va_S A0 H0 H1 locs1 → W p l e R s m args below meth c H1 locs1 (cells + mc) (slots + ms) Q (F0 m (pc + 3) ls (.long r :: rest))) : W p l e R s m args below meth c H locs cells slots Q (F0 m pc ls st0) := by
  intro T hT X
  rcases hr T hT X with ⟨v, st₀, t, T', L, h0, X', hL, e1, e2, ⟨⟨r, u, hv, hp, hb⟩, hF⟩, st⟩ | ⟨q, st₀, t, T', L, E, ce, h0, X', hL, e1, e2, ⟨u, hp, hb, hF⟩, hce, hcv, hcl, st⟩
  · cases hv
    obtain ⟨k1, k2, k3⟩ := vx_keep h0 e1 hS hA hf hL hF
    obtain ⟨t2, a1, b1⟩ := kk r u t T'.heap (locs ++ L) e1.symm (by rw [← e2]; exact X'.warmed.alike) hp hb k1 k2 k3 T' rfl X'
    exact ⟨t2, st t2 a1, b1⟩
  · obtain ⟨k1, k2, k3⟩ := vx_keep h0 e1 hS hAX hf hL hF
    obtain ⟨t2, a1, b1⟩ := kx E ce q u t T'.heap (locs ++ L) e1.symm (by rw [← e2]; exact X'.warmed.alike) hp hb k1 k2 k3 (by rw [e1]; exact hce) hcv hcl T' rfl X'
    exact ⟨t2, st.trans a1, b1⟩
theorem vx_callf {S SX : Type} {post : UInt32 → S → Prop} {px : SX → Prop} {B : S → State → Prop} {BX : String → SX → State → Prop} {AX : Nat → Prop} (hr : vx_Run p l e R s m args below meth c H locs cells slots mc ms (F0 m pc ls st0) rest (va_Qf post B A1 a) (vx_X px BX AX) free) (hS : va_S A0 H0 H locs) (hA : ∀ q, q < H.size → A1 q → A0 q) (hf : ∀ q, free q → A0 q) (hAX : ∀ q, q < H.size → AX q → A0 q)
    (kx : ∀ (E : String) (ce : Cell) (q9 : Addr) (u : SX) (t : State) (H1 : Heap) (locs1 : List Loc), t.heap = H1 → s.vm.Alike t.vm → px u → BX E u t → H.size ≤ H1.size → (∀ q : Nat, q < H.size → ¬ AX q → H1[q]? = H[q]?) → va_S A0 H0 H1 locs1 → H1[q9]? = some ce → ce.vm = .none → s.vm.findClass E = some ce.cls → vx_W p l e R s m args below meth c H1 locs1 (cells + mc) (slots + ms) Q (F0 m pc ls rest) q9)
    (kk : ∀ (r : UInt32) (u : S) (t : State) (H1 : Heap) (locs1 : List Loc), t.heap = H1 → s.vm.Alike t.vm → post r u → B u t → H.size ≤ H1.size → (∀ q : Nat, q < H.size → ¬ A1 q → H1[q]? = H[q]?) → va_S A0 H0 H1 locs1 → W p l e R s m args below meth c H1 locs1 (cells + mc) (slots + ms) Q (F0 m (pc + 3) ls (.float r :: rest))) : W p l e R s m args below meth c H locs cells slots Q (F0 m pc ls st0) := by
  intro T hT X
  rcases hr T hT X with ⟨v, st₀, t, T', L, h0, X', hL, e1, e2, ⟨⟨r, u, hv, hp, hb⟩, hF⟩, st⟩ | ⟨q, st₀, t, T', L, E, ce, h0, X', hL, e1, e2, ⟨u, hp, hb, hF⟩, hce, hcv, hcl, st⟩
  · cases hv
    obtain ⟨k1, k2, k3⟩ := vx_keep h0 e1 hS hA hf hL hF
    obtain ⟨t2, a1, b1⟩ := kk r u t T'.heap (locs ++ L) e1.symm (by rw [← e2]; exact X'.warmed.alike) hp hb k1 k2 k3 T' rfl X'
    exact ⟨t2, st t2 a1, b1⟩
  · obtain ⟨k1, k2, k3⟩ := vx_keep h0 e1 hS hAX hf hL hF
    obtain ⟨t2, a1, b1⟩ := kx E ce q u t T'.heap (locs ++ L) e1.symm (by rw [← e2]; exact X'.warmed.alike) hp hb k1 k2 k3 (by rw [e1]; exact hce) hcv hcl T' rfl X'
    exact ⟨t2, st.trans a1, b1⟩
theorem vx_calld {S SX : Type} {post : UInt64 → S → Prop} {px : SX → Prop} {B : S → State → Prop} {BX : String → SX → State → Prop} {AX : Nat → Prop} (hr : vx_Run p l e R s m args below meth c H locs cells slots mc ms (F0 m pc ls st0) rest (va_Qd post B A1 a) (vx_X px BX AX) free) (hS : va_S A0 H0 H locs) (hA : ∀ q, q < H.size → A1 q → A0 q) (hf : ∀ q, free q → A0 q) (hAX : ∀ q, q < H.size → AX q → A0 q)
    (kx : ∀ (E : String) (ce : Cell) (q9 : Addr) (u : SX) (t : State) (H1 : Heap) (locs1 : List Loc), t.heap = H1 → s.vm.Alike t.vm → px u → BX E u t → H.size ≤ H1.size → (∀ q : Nat, q < H.size → ¬ AX q → H1[q]? = H[q]?) → va_S A0 H0 H1 locs1 → H1[q9]? = some ce → ce.vm = .none → s.vm.findClass E = some ce.cls → vx_W p l e R s m args below meth c H1 locs1 (cells + mc) (slots + ms) Q (F0 m pc ls rest) q9)
    (kk : ∀ (r : UInt64) (u : S) (t : State) (H1 : Heap) (locs1 : List Loc), t.heap = H1 → s.vm.Alike t.vm → post r u → B u t → H.size ≤ H1.size → (∀ q : Nat, q < H.size → ¬ A1 q → H1[q]? = H[q]?) → va_S A0 H0 H1 locs1 → W p l e R s m args below meth c H1 locs1 (cells + mc) (slots + ms) Q (F0 m (pc + 3) ls (.double r :: rest))) : W p l e R s m args below meth c H locs cells slots Q (F0 m pc ls st0) := by
  intro T hT X
  rcases hr T hT X with ⟨v, st₀, t, T', L, h0, X', hL, e1, e2, ⟨⟨r, u, hv, hp, hb⟩, hF⟩, st⟩ | ⟨q, st₀, t, T', L, E, ce, h0, X', hL, e1, e2, ⟨u, hp, hb, hF⟩, hce, hcv, hcl, st⟩
  · cases hv
    obtain ⟨k1, k2, k3⟩ := vx_keep h0 e1 hS hA hf hL hF
    obtain ⟨t2, a1, b1⟩ := kk r u t T'.heap (locs ++ L) e1.symm (by rw [← e2]; exact X'.warmed.alike) hp hb k1 k2 k3 T' rfl X'
    exact ⟨t2, st t2 a1, b1⟩
  · obtain ⟨k1, k2, k3⟩ := vx_keep h0 e1 hS hAX hf hL hF
    obtain ⟨t2, a1, b1⟩ := kx E ce q u t T'.heap (locs ++ L) e1.symm (by rw [← e2]; exact X'.warmed.alike) hp hb k1 k2 k3 (by rw [e1]; exact hce) hcv hcl T' rfl X'
    exact ⟨t2, st.trans a1, b1⟩
theorem vx_callv {S SX : Type} {post : S → Prop} {px : SX → Prop} {B : S → State → Prop} {BX : String → SX → State → Prop} {AX : Nat → Prop} (hr : vx_Run p l e R s m args below meth c H locs cells slots mc ms (F0 m pc ls st0) rest (va_Qv post B A1 a) (vx_X px BX AX) free) (hS : va_S A0 H0 H locs) (hA : ∀ q, q < H.size → A1 q → A0 q) (hf : ∀ q, free q → A0 q) (hAX : ∀ q, q < H.size → AX q → A0 q)
    (kx : ∀ (E : String) (ce : Cell) (q9 : Addr) (u : SX) (t : State) (H1 : Heap) (locs1 : List Loc), t.heap = H1 → s.vm.Alike t.vm → px u → BX E u t → H.size ≤ H1.size → (∀ q : Nat, q < H.size → ¬ AX q → H1[q]? = H[q]?) → va_S A0 H0 H1 locs1 → H1[q9]? = some ce → ce.vm = .none → s.vm.findClass E = some ce.cls → vx_W p l e R s m args below meth c H1 locs1 (cells + mc) (slots + ms) Q (F0 m pc ls rest) q9)
    (kk : ∀ (u : S) (t : State) (H1 : Heap) (locs1 : List Loc), t.heap = H1 → s.vm.Alike t.vm → post u → B u t → H.size ≤ H1.size → (∀ q : Nat, q < H.size → ¬ A1 q → H1[q]? = H[q]?) → va_S A0 H0 H1 locs1 → W p l e R s m args below meth c H1 locs1 (cells + mc) (slots + ms) Q (F0 m (pc + 3) ls (rest))) : W p l e R s m args below meth c H locs cells slots Q (F0 m pc ls st0) := by
  intro T hT X
  rcases hr T hT X with ⟨v, st₀, t, T', L, h0, X', hL, e1, e2, ⟨⟨u, hv, hp, hb⟩, hF⟩, st⟩ | ⟨q, st₀, t, T', L, E, ce, h0, X', hL, e1, e2, ⟨u, hp, hb, hF⟩, hce, hcv, hcl, st⟩
  · cases hv
    obtain ⟨k1, k2, k3⟩ := vx_keep h0 e1 hS hA hf hL hF
    obtain ⟨t2, a1, b1⟩ := kk u t T'.heap (locs ++ L) e1.symm (by rw [← e2]; exact X'.warmed.alike) hp hb k1 k2 k3 T' rfl X'
    exact ⟨t2, st t2 a1, b1⟩
  · obtain ⟨k1, k2, k3⟩ := vx_keep h0 e1 hS hAX hf hL hF
    obtain ⟨t2, a1, b1⟩ := kx E ce q u t T'.heap (locs ++ L) e1.symm (by rw [← e2]; exact X'.warmed.alike) hp hb k1 k2 k3 (by rw [e1]; exact hce) hcv hcl T' rfl X'
    exact ⟨t2, st.trans a1, b1⟩
/-- caught by the row x of this method's table; the rows ahead don't take it -/
theorem vx_catch {own name : String} {E : String} {ce : Cell} {q : Addr} (hown : s.vm.findClass own = some m.cls) (pre : List ExceptionTableEntry) (x : ExceptionTableEntry) (suf : List ExceptionTableEntry) (hsplit : c.exceptionTable.toList = pre ++ x :: suf)
    (hpass : ∀ z ∈ pre, covers z pc = false ∨ (z.catchType ≠ 0 ∧ ∃ nm : String, (Cond.classLink own z.catchType nm).before args s = true ∧ va_Nc E nm s)) (hx : covers x pc = true) (h0 : x.catchType ≠ 0)
    (hlink : (Cond.classLink own x.catchType name).before args s = true) (hcast : (Cond.castable E name).before args s = true) (hcell : H[q]? = some ce) (hv : ce.vm = .none) (hcl : s.vm.findClass E = some ce.cls)
    (kk : W p l e R s m args below meth c H locs cells slots Q (F0 m x.handlerPc ls [.ref q])) : vx_W p l e R s m args below meth c H locs cells slots Q (F0 m pc ls rest) q := by
  intro T hT X
  have hpl : e.platform.magicAccessors = ({} : Platform).magicAccessors := by rw [X.admits.platform]
  obtain ⟨c3, c4, hc3, hc4, hasg⟩ := Cond.castable_spec hcast
  cases Option.some.inj (hc3.symm.trans hcl)
  obtain ⟨c5, hc5, hcl5⟩ := Cond.classLink_spec hown hlink e.platform hpl
  cases Option.some.inj (hc4.symm.trans hc5)
  obtain ⟨vm', X', st⟩ := ct_through X q (g := F0 m pc ls rest) rfl (by rw [hT]; exact hcell) (by rw [hv]; rfl) (by obtain ⟨k9, h9, -⟩ := Vm.findClass_spec hcl; exact ⟨k9, h9⟩) pre x suf hsplit
    (fun z hz => by
      rcases hpass z hz with h | ⟨hz0, nm, hl1, hn1⟩
      · exact Or.inl h
      · obtain ⟨c6, hc6, hcl6⟩ := Cond.classLink_spec hown hl1 e.platform hpl
        obtain ⟨a8, b8, h1, h2, h3⟩ := hn1
        cases Option.some.inj (h1.symm.trans hcl)
        cases Option.some.inj (h2.symm.trans hc6)
        exact Or.inr ⟨hz0, _, hcl6, h3⟩) hx h0 hcl5 hasg
  obtain ⟨t, a1, b1⟩ := kk (T.setVm vm') hT X'
  exact ⟨t, st.trans a1, b1⟩
end Rows
section Ends
variable {p : Program} {l : Launch} {e : Env} {R : Room} {s : State} {m : MethodId} {args : Array Value} {below : List Frame} {meth : Method} {c : Code} {H : Heap} {locs : List Loc} {cells slots : Nat} {Q : State → Prop}
variable {mc ms : Nat} {free : Addr → Prop} {A0 A1 : Nat → Prop} {H0 : Heap} {a : Array Value} {ls : Array Slot} {st0 rest : List Value}
variable {Qc : Array Value → State → Outcome → State → Prop} {XC : String → State → State → Prop}
/-- what a body that may throw owes at its end -/
def vx_MQ (below : List Frame) (Qc : Array Value → State → Outcome → State → Prop) (XC : String → State → State → Prop) (a : Array Value) (s : State) (mc ms : Nat) (free : Addr → Prop) : State → Prop := fun t =>
  ∃ o, t.status = .running ∧ Ended t below o ∧ vx_Q Qc XC mc ms free a s o t
theorem vx_ret {g : JFrame} {mc ms : Nat} (k : W p l e R s m args below meth c H locs cells slots (MQ below Qc args s mc ms free) g) : W p l e R s m args below meth c H locs cells slots (vx_MQ below Qc XC args s mc ms free) g := by
  intro T hT X
  obtain ⟨t, a1, o, b1, b2, b3, b4⟩ := k T hT X
  exact ⟨t, a1, o, b1, b2, Or.inl ⟨b3, b4⟩⟩
/-- not caught here: it goes on to the caller -/
theorem vx_widen {g : JFrame} {q : Addr} {k n : Nat} (h1 : cells ≤ k) (h2 : slots ≤ n) (kk : vx_W p l e R s m args below meth c H locs k n Q g q) : vx_W p l e R s m args below meth c H locs cells slots Q g q := fun T hT X => kk T hT (stand_widen X h1 h2)
theorem vx_out {pc : Nat} {E : String} {ce : Cell} {q : Addr} {mc ms : Nat} (hout : ∀ x ∈ c.exceptionTable.toList, covers x pc = false) (hlocks : meth.locks = false) (hcell : H[q]? = some ce) (hv : ce.vm = .none) (hcl : s.vm.findClass E = some ce.cls)
    (hx : ∀ t : State, t.heap = H → s.vm.Alike t.vm → XC E s t) (hf : ∀ z ∈ locs, free z.base) (hc : cells ≤ mc) (hs : slots ≤ ms) :
    vx_W p l e R s m args below meth c H locs cells slots (vx_MQ below Qc XC args s mc ms free) (F0 m pc ls rest) q := by
  intro T hT X
  obtain ⟨st1, hrun, hend, hW, hsm⟩ := X.leaveThrown q (g := F0 m pc ls rest) rfl rfl rfl hout hlocks
  have hcell9 : (T.setFrames (.throwing q :: below)).heap[q]? = some ce := by
    show T.heap[q]? = some ce
    rw [hT]; exact hcell
  exact ⟨_, st1, .threw q, hrun, hend, Or.inr ⟨q, rfl, E, ce, locs, hx _ hT hW.alike, hcell9, hv, hcl, hW, hsm.mono hc hs, hf⟩⟩
theorem vx_frame {U : State} {k n : Nat} (h : s.sameButNew ({ U with vm := s.vm } : State) locs k n) : s.heap.size ≤ U.heap.size ∧ ∀ q : Nat, q < s.heap.size → (∀ z ∈ locs, z.base ≠ q) → U.heap[q]? = s.heap[q]? := by
  obtain ⟨-, h2, -, -, -, h6⟩ := h
  refine ⟨h2, fun q hq hz => ?_⟩
  obtain ⟨c9, e1, e2, e3, e4⟩ := h6 q _ (Array.getElem?_eq_getElem hq)
  have hs : c9.slots = (s.heap[q]).slots := Array.ext_getElem? fun i => e4 i fun hm => hz _ hm rfl
  have h9 : c9 = s.heap[q] := by
    rw [hs] at e2
    exact e2
  have e5 : U.heap[q]? = some c9 := e1
  rw [e5, h9, Array.getElem?_eq_getElem hq]
/-- the words of a throw but the four that speak of the heap -/
def vx_no (w : Cond) : Bool := decide (w ≠ .isRef (.static Bundle.tN "UNASSIGNED_STACK" Bundle.steD)) && decide (w ≠ .isRef (.static Bundle.tN "SUPPRESSED_SENTINEL" Bundle.listD)) && decide (w ≠ .laysStatic Bundle.tN "UNASSIGNED_STACK" Bundle.steD) && decide (w ≠ .laysStatic Bundle.tN "SUPPRESSED_SENTINEL" Bundle.listD)
def vx_at0 (own : String) (ic : Nat) (X : String) (names : List String) : List Cond := (Bundle.ownAtoms0 own ic X names).filter vx_no
def vx_atS (own : String) (ic : Nat) (X : String) (names : List String) : List Cond := (Bundle.ownAtoms own ic X names).filter vx_no
/-- a word that the tables alone decide, or a good one -/
def vx_ot (w : Cond) : Bool := w.onTables || goodWord w
theorem vx_ot_at {args a' : Array Value} {s U : State} {w : Cond} (hW : s.WarmedH U.vm) (hvm : s.vm = U.vm) (hg : vx_ot w = true) (h : w.before args s = true) : w.before a' U = true := by
  simp only [vx_ot, Bool.or_eq_true] at hg
  rcases hg with hg | hg
  · exact va_tabs hg hvm h
  · exact word_at hW (good_of_word hg) h
/-- a list's words: the good ones out of the method's own list, the others by premises of their own -/
theorem vx_hat {args : Array Value} {s : State} {L B : List Cond} (h1 : ∀ w ∈ L.filter goodWord, w.before args s = true) (h2 : ∀ w ∈ L.filter (fun w => !goodWord w), w ∈ B) (h3 : ∀ w ∈ B, w.before args s = true) : ∀ w ∈ L, w.before args s = true := by
  intro w hw
  by_cases g : goodWord w = true
  · exact h1 w (List.mem_filter.mpr ⟨hw, g⟩)
  · refine h3 w (h2 w (List.mem_filter.mpr ⟨hw, ?_⟩))
    show (!goodWord w) = true
    cases hgw : goodWord w
    · rfl
    · exact absurd hgw g
theorem vx_c {args : Array Value} {s : State} {w : Cond} {B : List Cond} (h : w.before args s = true) (t : ∀ w ∈ B, w.before args s = true) : ∀ w' ∈ w :: B, w'.before args s = true := fun w' h' => (List.mem_cons.mp h').elim (fun e => by rw [e]; exact h) (t w')
theorem vx_n {args : Array Value} {s : State} : ∀ w ∈ ([] : List Cond), w.before args s = true := fun _ h => nomatch h
theorem vx_own {args : Array Value} {s : State} {L : List Cond} (h1 : ∀ w ∈ L.filter vx_no, w.before args s = true)
    (hU : (Cond.isRef (.static Bundle.tN "UNASSIGNED_STACK" Bundle.steD)).before args s = true) (hN : (Cond.isRef (.static Bundle.tN "SUPPRESSED_SENTINEL" Bundle.listD)).before args s = true)
    (lU : (Cond.laysStatic Bundle.tN "UNASSIGNED_STACK" Bundle.steD).before args s = true) (lN : (Cond.laysStatic Bundle.tN "SUPPRESSED_SENTINEL" Bundle.listD).before args s = true) : ∀ w ∈ L, w.before args s = true := by
  intro w hw
  by_cases e1 : w = .isRef (.static Bundle.tN "UNASSIGNED_STACK" Bundle.steD)
  · rw [e1]; exact hU
  · by_cases e2 : w = .isRef (.static Bundle.tN "SUPPRESSED_SENTINEL" Bundle.listD)
    · rw [e2]; exact hN
    · by_cases e3 : w = .laysStatic Bundle.tN "UNASSIGNED_STACK" Bundle.steD
      · rw [e3]; exact lU
      · by_cases e4 : w = .laysStatic Bundle.tN "SUPPRESSED_SENTINEL" Bundle.listD
        · rw [e4]; exact lN
        · exact h1 w (List.mem_filter.mpr ⟨hw, by unfold vx_no; rw [decide_eq_true e1, decide_eq_true e2, decide_eq_true e3, decide_eq_true e4]; rfl⟩)
/-- where a static field lies, its class's statics cell in H -/
def vx_L (C n d : String) (A : Nat → Prop) (U : State) (H : Heap) : Prop := ∃ (c : ClassId) (k : Class) (i : Nat) (f : Field) (a : Nat) (cell : Cell), U.vm.findClass C = some c ∧ U.fieldFound? C n d = some (c, k, i, f) ∧ f.isStatic = true ∧ k.statics = some a ∧ H[a]? = some cell ∧ cell.vm.isStatics = true ∧ cell.cls = c ∧ f.slot < cell.slots.size ∧ k.staticTypes[f.slot]? = some f.type ∧ ¬ A a
theorem vx_L.moved {C n d : String} {A : Nat → Prop} {u U : State} {H : Heap} (hvm : u.vm.Alike U.vm) (h : vx_L C n d A u H) : vx_L C n d A U H := by
  obtain ⟨c, k, i, f, a, cell, h1, h2, h3, h4, h5, h6, h7, h8, h9, h10⟩ := h
  obtain ⟨k', hi', he⟩ := State.fieldFound?_setVm hvm h2
  exact ⟨c, k', i, f, a, cell, by rw [hvm.findClass]; exact h1, hi', h3, by rw [he]; exact h4, h5, h6, h7, h8, by rw [he]; exact h9, h10⟩
theorem vx_L.kept {C n d : String} {A : Nat → Prop} {U : State} {H H1 : Heap} (h : vx_L C n d A U H) (hq : ∀ a : Nat, a < H.size → ¬ A a → H1[a]? = H[a]?) : vx_L C n d A U H1 := by
  obtain ⟨c, k, i, f, a, cell, h1, h2, h3, h4, h5, h6, h7, h8, h9, h10⟩ := h
  exact ⟨c, k, i, f, a, cell, h1, h2, h3, h4, by rw [hq a (Array.getElem?_eq_some_iff.mp h5).1 h10]; exact h5, h6, h7, h8, h9, h10⟩
theorem vx_L.narrow {C n d : String} {A B : Nat → Prop} {U : State} {H : Heap} (h : vx_L C n d A U H) (hAB : ∀ q, B q → A q) : vx_L C n d B U H := by
  obtain ⟨c, k, i, f, a, cell, h1, h2, h3, h4, h5, h6, h7, h8, h9, h10⟩ := h
  exact ⟨c, k, i, f, a, cell, h1, h2, h3, h4, h5, h6, h7, h8, h9, fun z => h10 (hAB _ z)⟩
theorem vx_L.word {C n d : String} {A : Nat → Prop} {s : State} {args : Array Value} (h : vx_L C n d A s s.heap) : (Cond.laysStatic C n d).before args s = true := by
  obtain ⟨c, k, i, f, a, cell, h1, h2, h3, h4, h5, h6, h7, h8, h9, -⟩ := h
  show (Cond.laysStatic C n d).holds args s none s [] = true
  exact Cond.laysStatic_of h1 h2 h3 h4 h5 h6 h7 h8 h9
/-- .. and what it holds: null or some reference -/
def vx_Zq (C n d : String) (A : Nat → Prop) (U : State) (H : Heap) : Prop := va_Zq C n d A U H ∧ vx_L C n d A U H
theorem vx_Zq.moved {C n d : String} {A : Nat → Prop} {u U : State} {H : Heap} (hvm : u.vm.Alike U.vm) (h : vx_Zq C n d A u H) : vx_Zq C n d A U H := ⟨va_Zq.moved hvm h.1, vx_L.moved hvm h.2⟩
theorem vx_Zq.kept {C n d : String} {A : Nat → Prop} {U : State} {H H1 : Heap} (h : vx_Zq C n d A U H) (hq : ∀ a : Nat, a < H.size → ¬ A a → H1[a]? = H[a]?) : vx_Zq C n d A U H1 := ⟨va_Zq.kept h.1 hq, vx_L.kept h.2 hq⟩
theorem vx_Zq.narrow {C n d : String} {A B : Nat → Prop} {U : State} {H : Heap} (h : vx_Zq C n d A U H) (hAB : ∀ q, B q → A q) : vx_Zq C n d B U H := ⟨va_Zq.narrow h.1 hAB, vx_L.narrow h.2 hAB⟩
theorem vx_Zqof {args : Array Value} {s : State} {C n d : String} {A : Nat → Prop} (hl : (Cond.laysStatic C n d).before args s = true) (hini : (Cond.initialized C).before args s = true) (h : (Cond.isRef (.static C n d)).before args s = true) (hA : ∀ a : Nat, a < s.heap.size → ¬ A a) : vx_Zq C n d A s s.heap := by
  refine ⟨va_Zqof hl hini h hA, ?_⟩
  obtain ⟨c, k, i, f, a, cell, h1, h2, h3, h4, h5, h6, h7, h8, h9⟩ := Cond.laysStatic_spec hl
  exact ⟨c, k, i, f, a, cell, h1, h2, h3, h4, h5, h6, h7, h8, h9, hA a (Array.getElem?_eq_some_iff.mp h5).1⟩
theorem vx_isRef {C n d : String} {v : Value} {A : Nat → Prop} {s : State} {args : Array Value} (h : va_Z C n d v A s s.heap) (hv : v.isRef = true) : (Cond.isRef (.static C n d)).before args s = true := by
  obtain ⟨cf, kf, fi, f, a, cell, h1, h2, h3, h4, h5, h6, h7, -⟩ := h
  have he : (Term.static C n d).eval args s none [] s = some v := by
    simp [Term.eval, State.fieldNamed?, h1, h2, h4, h5, h6, h7]
  simp only [Cond.before, Cond.holds, Cond.value, he]
  cases v <;> simp_all [Value.isRef]
theorem vx_isRefq {C n d : String} {A : Nat → Prop} {s : State} {args : Array Value} (h : va_Zq C n d A s s.heap) : (Cond.isRef (.static C n d)).before args s = true := by
  rcases h with h | ⟨t, h⟩
  · exact vx_isRef h rfl
  · exact vx_isRef h rfl
/-- the same frame, seen from here: as if the method were called anew in this heap -/
theorem vx_rebase {T : State} (X : Stand p l e R s m args below meth c T locs cells slots) {R' : Room} (hf : R'.frames ≤ R.frames) (hl : R'.locals ≤ R.locals) (hc : cells + R'.cells ≤ R.cells) (hs : slots + R'.slots ≤ R.slots) :
    Stand p l e R' ((T.setVm s.vm).setFrames (.invoking m args :: below)) m args below meth c T [] 0 0 := by
  have htop : (T.setVm s.vm).topJava?.isSome := X.here.top
  have hF : ((T.setVm s.vm).setFrames (.invoking m args :: below)).frames = .invoking m args :: below := State.frames_setFrames _ (State.cur_lt_of_top htop)
  obtain ⟨g₀, hg0⟩ := Option.isSome_iff_exists.mp htop
  obtain ⟨r, hr⟩ := State.topJava?_eq_some.mp hg0
  have hl9 : e.platform.stackLimits (T.setVm s.vm).me = e.platform.stackLimits s.me := X.limits
  have hb9 : (T.setVm s.vm).me.stackBytes = s.me.stackBytes := X.bytes
  refine ⟨X.admits, X.cas, X.clock, hF, ?_, X.hears, X.method, X.code, X.here, X.tail, X.warmed, ?_, ?_, ?_⟩
  · have h := X.room
    have hU : ((T.setVm s.vm).setFrames (.invoking m args :: below)).localsInUse = s.localsInUse := by
      rw [State.localsInUse_invoking hF (meth := meth) (c := c) X.method X.code, State.localsInUse_invoking X.frames X.method X.code]
    simp only [State.hasRoom, Bool.and_eq_true, decide_eq_true_eq] at h ⊢
    obtain ⟨⟨⟨⟨h1, h2, h3, h4, h5, h6⟩, h7⟩, h8⟩, h9⟩ := h
    rw [X.frames, List.length_cons] at h2 h3
    have q1 := X.heapSize
    have q2 := X.used
    simp only [hF, hU, List.length_cons, State.stackLimits_setFrames, State.stackBytes_setFrames, hl9, hb9]
    refine ⟨⟨⟨⟨by omega, by omega, by omega, by omega, by omega, h6⟩, ?_⟩, ?_⟩, X.book⟩
    · show T.heap.size + R'.cells ≤ e.platform.maxCells
      omega
    · show T.slotsUsed + R'.slots ≤ e.platform.maxSlots
      omega
  · rw [State.stackLimits_setFrames]; rfl
  · rw [State.stackBytes_setFrames]; rfl
  · refine ⟨?_, Nat.le_refl _, Nat.le_refl _, ?_, ?_, fun a c9 h9 => ⟨c9, h9, rfl, rfl, fun _ _ => rfl⟩⟩
    · obtain ⟨t, ht, -⟩ := State.frames_cons hr
      show T.setVm s.vm = { ((T.setVm s.vm).setFrames (.invoking m args :: below)).setFrames (T.setVm s.vm).frames with heap := T.heap, slotsUsed := T.slotsUsed }
      rw [State.setFrames_setFrames, State.setFrames_self ht]
      rfl
    · show T.slotsUsed = T.slotsUsed + ((T.heap.toList.drop T.heap.size).map (·.slots.size)).sum
      rw [List.drop_eq_nil_of_le (Nat.le_of_eq Array.length_toList)]
      rfl
    · show ((T.heap.toList.drop T.heap.size).map (·.slots.size)).sum ≤ 0
      rw [List.drop_eq_nil_of_le (Nat.le_of_eq Array.length_toList)]
      exact Nat.le_refl _
/-- 'throw new E()': new; dup; invokespecial; athrow -/
theorem vx_throw0 {cc : ByteArray} {pc : Nat} (hexec : p.tables.exec = Jvm.exec) (hb : c.code = cc) (hl : l.stackTraces = false) {own cls : String} {names : List String} {ik ic mc ms : Nat} {A : Nat → Prop}
    (hown : s.vm.findClass own = some m.cls) (hcls : Bundle.fit cls = true) (hnames : ∀ n ∈ names, Bundle.fit n = true)
    (hk : (Cond.classLink own ik cls).before args s = true) (hini : (Cond.initialized cls).before args s = true) (hat : ∀ w ∈ vx_at0 own ic cls names, w.before args s = true)
    (hgood : ∀ w ∈ Cond.classLink own ik cls :: Cond.initialized cls :: vx_at0 own ic cls names, vx_ot w = true)
    (hU : vx_Zq Bundle.tN "UNASSIGNED_STACK" Bundle.steD A s s.heap) (hN : vx_Zq Bundle.tN "SUPPRESSED_SENTINEL" Bundle.listD A s s.heap) (hS : va_S A s.heap H locs) (hsize : ls.size = c.maxLocals)
    (d0 : decode cc pc = .ok (.new ik, 3)) (d3 : decode cc (pc + 3) = .ok (.dup, 1)) (d4 : decode cc (pc + 4) = .ok (.invokespecial ic, 3)) (d7 : decode cc (pc + 7) = .ok (.athrow, 1))
    (hout : ∀ x ∈ c.exceptionTable.toList, covers x (pc + 7) = false)
    (hRframes : names.length + 3 < R.frames) (hRlocals : (rest.map fun v => v.category).sum + (13 * (names.length + 1) + 42) ≤ R.locals) (hRcells : cells + 1 ≤ R.cells) (hRslots : slots + 6 ≤ R.slots) (hlocks : meth.locks = false)
    (hx : ∀ t : State, s.vm.Alike t.vm → H.size ≤ t.heap.size → (∀ q : Nat, q < H.size → t.heap[q]? = H[q]?) → XC cls s t)
    (hf : ∀ z ∈ locs, free z.base) (hc : cells + 1 ≤ mc) (hs : slots + 6 ≤ ms) :
    W p l e R s m args below meth c H locs cells slots (vx_MQ below Qc XC args s mc ms free) (F0 m pc ls rest) := by
  intro T hT X
  have htr : e.platform.stackTraces = false := (show e.platform.stackTraces = l.stackTraces by rw [X.admits.platform]).trans hl
  have Y := vx_rebase X (R' := { frames := R.frames, locals := R.locals, cells := 1, slots := 6 }) (Nat.le_refl _) (Nat.le_refl _) hRcells hRslots
  obtain ⟨s', hA⟩ : ∃ z, z = (T.setVm s.vm).setFrames (.invoking m args :: below) := ⟨_, rfl⟩
  rw [← hA] at Y
  have hvm : s'.vm = s.vm := by rw [hA]; rfl
  have hhp : s'.heap = H := by rw [hA]; exact hT
  have hW0 : s.WarmedH s'.vm := by rw [hvm]; exact State.WarmedH.refl s
  have hat' : ∀ w ∈ vx_at0 own ic cls names, w.before args s' = true := fun w hw => vx_ot_at hW0 hvm.symm (hgood w (List.mem_cons_of_mem _ (List.mem_cons_of_mem _ hw))) (hat w hw)
  have hk' : (Cond.classLink own ik cls).before args s' = true := vx_ot_at hW0 hvm.symm (hgood _ List.mem_cons_self) hk
  have hini' : (Cond.initialized cls).before args s' = true := vx_ot_at hW0 hvm.symm (hgood _ (List.mem_cons_of_mem _ List.mem_cons_self)) hini
  have hU' : vx_Zq Bundle.tN "UNASSIGNED_STACK" Bundle.steD A s' s'.heap := by rw [hhp]; exact vx_Zq.moved hW0.alike (hU.kept hS.2.1)
  have hN' : vx_Zq Bundle.tN "SUPPRESSED_SENTINEL" Bundle.listD A s' s'.heap := by rw [hhp]; exact vx_Zq.moved hW0.alike (hN.kept hS.2.1)
  have h : ∀ w ∈ Bundle.ownAtoms0 own ic cls names, w.before args s' = true := vx_own hat' (vx_isRefq hU'.1) (vx_isRefq hN'.1) hU'.2.word hN'.2.word
  have hown' : s'.vm.findClass own = some m.cls := by rw [hvm]; exact hown
  have hins : (Cond.instantiable cls 6).before args s' = true := h _ (by simp [Bundle.ownAtoms0])
  obtain ⟨vm₁, cX, kX, hfX, hkX, -, -, X₁, st1⟩ := Y.newCold hexec (own := own) (C := cls) (index := ik) (n := 6) hown' hk' hins hini'
    (g := F0 m pc ls rest) rfl (by rw [hb]; exact d0) (Nat.le_refl _) (Nat.le_refl _)
  generalize hT1 : (T.setVm vm₁).pushCell { cls := cX, slots := kX.instanceTypes.map defaultValue, vm := .none } = T1 at X₁ st1
  have hcat : (Value.ref T.heap.size).category = 1 := rfl
  have hcellA : T1.heap[T.heap.size]? = some (freshCell cX kX) := by rw [← hT1]; exact State.heap_pushCell_size _ _
  have d3' : decode c.code (pc + 3) = .ok (.dup, 1) := by rw [hb]; exact d3
  obtain ⟨U, hsteps, hrun, hend, hW, hsame, ce, hce, hO⟩ := X₁.ctorThrow0 hexec htr (own := own) (cls := cls) (names := names) (ic := ic) hown' hcls hnames h (fun x hx => nomatch hx) hfX hkX hcellA (by rw [hhp, hT]; exact Nat.le_refl _)
    (g := { method := m, pc := pc + 4, locals := ls, stack := .ref T.heap.size :: .ref T.heap.size :: rest, locked := none }) rfl hsize rfl rfl (rest := rest) rfl
    (by rw [hb]; exact d4) (by rw [hb]; exact d7) hout hRframes (by simp only [List.map_cons, List.sum_cons, hcat]; omega) hlocks
  obtain ⟨f1, f2⟩ := vx_frame hsame
  rw [hhp] at f1 f2
  have hWs : s.WarmedH U.vm := State.WarmedH.trans hW0 hW
  have hcl : s.vm.findClass cls = some ce.cls := by
    have h9 := hO.cls
    rw [hvm] at h9
    exact h9
  have hall : s.sameButNew ({ U with vm := s.vm } : State) locs mc ms := by
    subst hA
    obtain ⟨e1, e2⟩ := hsame
    rw [State.setFrames_setFrames] at e1
    have h2 : (T.setVm s.vm).sameButNew ({ U with vm := s.vm } : State) [] (0 + 1) (0 + 6) := ⟨e1, e2⟩
    have h3 := X.same.trans h2
    rw [List.append_nil] at h3
    exact h3.mono hc hs
  refine ⟨U, ?_, .threw T.heap.size, hrun, hend, Or.inr ⟨T.heap.size, rfl, cls, ce, locs, hx U hWs.alike f1 (fun q hq => f2 q hq (fun z hz => nomatch hz)), hce, hO.vm, hcl, hWs, hall, hf⟩⟩
  refine st1 _ ?_
  show Steps p.tables e below (T1.setTop { method := m, pc := pc + 3, locals := ls, stack := .ref T.heap.size :: rest, locked := none }) _
  jvm_step X₁.here [X₁.here.top, hexec, d3', Value.category]
  exact hsteps
/-- 'throw new E("text")': new; dup; ldc; invokespecial; athrow -/
theorem vx_throwS {cc : ByteArray} {pc : Nat} (hexec : p.tables.exec = Jvm.exec) (hb : c.code = cc) (hl : l.stackTraces = false) {own cls text : String} {names : List String} {ik is ic mc ms sa : Nat} {A : Nat → Prop}
    (hown : s.vm.findClass own = some m.cls) (hcls : Bundle.fit cls = true) (hnames : ∀ n ∈ names, Bundle.fit n = true)
    (hk : (Cond.classLink own ik cls).before args s = true) (hini : (Cond.initialized cls).before args s = true) (hstr : vk_R own is text sa s) (hat : ∀ w ∈ vx_atS own ic cls names, w.before args s = true)
    (hgood : ∀ w ∈ Cond.classLink own ik cls :: Cond.initialized cls :: vx_atS own ic cls names, vx_ot w = true)
    (hU : vx_Zq Bundle.tN "UNASSIGNED_STACK" Bundle.steD A s s.heap) (hN : vx_Zq Bundle.tN "SUPPRESSED_SENTINEL" Bundle.listD A s s.heap) (hS : va_S A s.heap H locs) (hsize : ls.size = c.maxLocals)
    (d0 : decode cc pc = .ok (.new ik, 3)) (d3 : decode cc (pc + 3) = .ok (.dup, 1)) (d4 : decode cc (pc + 4) = .ok (.ldc is, 2)) (d6 : decode cc (pc + 6) = .ok (.invokespecial ic, 3)) (d9 : decode cc (pc + 9) = .ok (.athrow, 1))
    (hout : ∀ x ∈ c.exceptionTable.toList, covers x (pc + 9) = false)
    (hRframes : names.length + 3 < R.frames) (hRlocals : (rest.map fun v => v.category).sum + (13 * (names.length + 1) + 43) ≤ R.locals) (hRcells : cells + 1 ≤ R.cells) (hRslots : slots + 6 ≤ R.slots) (hlocks : meth.locks = false)
    (hx : ∀ t : State, s.vm.Alike t.vm → H.size ≤ t.heap.size → (∀ q : Nat, q < H.size → t.heap[q]? = H[q]?) → XC cls s t)
    (hf : ∀ z ∈ locs, free z.base) (hc : cells + 1 ≤ mc) (hs : slots + 6 ≤ ms) :
    W p l e R s m args below meth c H locs cells slots (vx_MQ below Qc XC args s mc ms free) (F0 m pc ls rest) := by
  intro T hT X
  have htr : e.platform.stackTraces = false := (show e.platform.stackTraces = l.stackTraces by rw [X.admits.platform]).trans hl
  have Y := vx_rebase X (R' := { frames := R.frames, locals := R.locals, cells := 1, slots := 6 }) (Nat.le_refl _) (Nat.le_refl _) hRcells hRslots
  obtain ⟨s', hA⟩ : ∃ z, z = (T.setVm s.vm).setFrames (.invoking m args :: below) := ⟨_, rfl⟩
  rw [← hA] at Y
  have hvm : s'.vm = s.vm := by rw [hA]; rfl
  have hhp : s'.heap = H := by rw [hA]; exact hT
  have hW0 : s.WarmedH s'.vm := by rw [hvm]; exact State.WarmedH.refl s
  have hat' : ∀ w ∈ vx_atS own ic cls names, w.before args s' = true := fun w hw => vx_ot_at hW0 hvm.symm (hgood w (List.mem_cons_of_mem _ (List.mem_cons_of_mem _ hw))) (hat w hw)
  have hk' : (Cond.classLink own ik cls).before args s' = true := vx_ot_at hW0 hvm.symm (hgood _ List.mem_cons_self) hk
  have hini' : (Cond.initialized cls).before args s' = true := vx_ot_at hW0 hvm.symm (hgood _ (List.mem_cons_of_mem _ List.mem_cons_self)) hini
  have hU' : vx_Zq Bundle.tN "UNASSIGNED_STACK" Bundle.steD A s' s'.heap := by rw [hhp]; exact vx_Zq.moved hW0.alike (hU.kept hS.2.1)
  have hN' : vx_Zq Bundle.tN "SUPPRESSED_SENTINEL" Bundle.listD A s' s'.heap := by rw [hhp]; exact vx_Zq.moved hW0.alike (hN.kept hS.2.1)
  have h : ∀ w ∈ Bundle.ownAtoms own ic cls names, w.before args s' = true := vx_own hat' (vx_isRefq hU'.1) (vx_isRefq hN'.1) hU'.2.word hN'.2.word
  have hown' : s'.vm.findClass own = some m.cls := by rw [hvm]; exact hown
  have hins : (Cond.instantiable cls 6).before args s' = true := h _ (by simp [Bundle.ownAtoms])
  obtain ⟨vm₁, cX, kX, hfX, hkX, -, -, X₁, st1⟩ := Y.newCold hexec (own := own) (C := cls) (index := ik) (n := 6) hown' hk' hins hini'
    (g := F0 m pc ls rest) rfl (by rw [hb]; exact d0) (Nat.le_refl _) (Nat.le_refl _)
  generalize hT1 : (T.setVm vm₁).pushCell { cls := cX, slots := kX.instanceTypes.map defaultValue, vm := .none } = T1 at X₁ st1
  have hcat : (Value.ref T.heap.size).category = 1 := rfl
  have hcellA : T1.heap[T.heap.size]? = some (freshCell cX kX) := by rw [← hT1]; exact State.heap_pushCell_size _ _
  have d3' : decode c.code (pc + 3) = .ok (.dup, 1) := by rw [hb]; exact d3
  have d4' : decode c.code (pc + 4) = .ok (.ldc is, 2) := by rw [hb]; exact d4
  have hstr' : vk_R own is text sa s' := vk_R.warm hW0 hstr
  obtain ⟨U, hsteps, hrun, hend, hW, hsame, ce, hce, hO⟩ := X₁.ctorThrowS hexec htr (own := own) (cls := cls) (names := names) (ic := ic) hown' hcls hnames h (fun x hx => nomatch hx) hfX hkX hcellA (by rw [hhp, hT]; exact Nat.le_refl _) (msg := .ref sa) rfl
    (g := { method := m, pc := pc + 6, locals := ls, stack := .ref sa :: .ref T.heap.size :: .ref T.heap.size :: rest, locked := none }) rfl hsize rfl rfl (rest := rest) rfl
    (by rw [hb]; exact d6) (by rw [hb]; exact d9) hout hRframes (by simp only [List.map_cons, List.sum_cons, hcat]; omega) hlocks
  obtain ⟨f1, f2⟩ := vx_frame hsame
  rw [hhp] at f1 f2
  have hWs : s.WarmedH U.vm := State.WarmedH.trans hW0 hW
  have hcl : s.vm.findClass cls = some ce.cls := by
    have h9 := hO.cls
    rw [hvm] at h9
    exact h9
  have hall : s.sameButNew ({ U with vm := s.vm } : State) locs mc ms := by
    subst hA
    obtain ⟨e1, e2⟩ := hsame
    rw [State.setFrames_setFrames] at e1
    have h2 : (T.setVm s.vm).sameButNew ({ U with vm := s.vm } : State) [] (0 + 1) (0 + 6) := ⟨e1, e2⟩
    have h3 := X.same.trans h2
    rw [List.append_nil] at h3
    exact h3.mono hc hs
  refine ⟨U, ?_, .threw T.heap.size, hrun, hend, Or.inr ⟨T.heap.size, rfl, cls, ce, locs, hx U hWs.alike f1 (fun q hq => f2 q hq (fun z hz => nomatch hz)), hce, hO.vm, hcl, hWs, hall, hf⟩⟩
  refine st1 _ ?_
  show Steps p.tables e below (T1.setTop { method := m, pc := pc + 3, locals := ls, stack := .ref T.heap.size :: rest, locked := none }) _
  jvm_step X₁.here [X₁.here.top, hexec, d3', Value.category]
  exact X₁.ldcString hexec (own := own) (text := text) (index := is) (a := sa) hown' hstr'.1 hstr'.2
    (g := { method := m, pc := pc + 4, locals := ls, stack := .ref T.heap.size :: .ref T.heap.size :: rest, locked := none }) rfl d4' _ hsteps
/-- 'throw new E("text")', the text by a wide index -/
theorem vx_throwSW {cc : ByteArray} {pc : Nat} (hexec : p.tables.exec = Jvm.exec) (hb : c.code = cc) (hl : l.stackTraces = false) {own cls text : String} {names : List String} {ik is ic mc ms sa : Nat} {A : Nat → Prop}
    (hown : s.vm.findClass own = some m.cls) (hcls : Bundle.fit cls = true) (hnames : ∀ n ∈ names, Bundle.fit n = true)
    (hk : (Cond.classLink own ik cls).before args s = true) (hini : (Cond.initialized cls).before args s = true) (hstr : vk_R own is text sa s) (hat : ∀ w ∈ vx_atS own ic cls names, w.before args s = true)
    (hgood : ∀ w ∈ Cond.classLink own ik cls :: Cond.initialized cls :: vx_atS own ic cls names, vx_ot w = true)
    (hU : vx_Zq Bundle.tN "UNASSIGNED_STACK" Bundle.steD A s s.heap) (hN : vx_Zq Bundle.tN "SUPPRESSED_SENTINEL" Bundle.listD A s s.heap) (hS : va_S A s.heap H locs) (hsize : ls.size = c.maxLocals)
    (d0 : decode cc pc = .ok (.new ik, 3)) (d3 : decode cc (pc + 3) = .ok (.dup, 1)) (d4 : decode cc (pc + 4) = .ok (.ldc_w is, 3)) (d7 : decode cc (pc + 7) = .ok (.invokespecial ic, 3)) (d10 : decode cc (pc + 10) = .ok (.athrow, 1))
    (hout : ∀ x ∈ c.exceptionTable.toList, covers x (pc + 10) = false)
    (hRframes : names.length + 3 < R.frames) (hRlocals : (rest.map fun v => v.category).sum + (13 * (names.length + 1) + 43) ≤ R.locals) (hRcells : cells + 1 ≤ R.cells) (hRslots : slots + 6 ≤ R.slots) (hlocks : meth.locks = false)
    (hx : ∀ t : State, s.vm.Alike t.vm → H.size ≤ t.heap.size → (∀ q : Nat, q < H.size → t.heap[q]? = H[q]?) → XC cls s t)
    (hf : ∀ z ∈ locs, free z.base) (hc : cells + 1 ≤ mc) (hs : slots + 6 ≤ ms) :
    W p l e R s m args below meth c H locs cells slots (vx_MQ below Qc XC args s mc ms free) (F0 m pc ls rest) := by
  intro T hT X
  have htr : e.platform.stackTraces = false := (show e.platform.stackTraces = l.stackTraces by rw [X.admits.platform]).trans hl
  have Y := vx_rebase X (R' := { frames := R.frames, locals := R.locals, cells := 1, slots := 6 }) (Nat.le_refl _) (Nat.le_refl _) hRcells hRslots
  obtain ⟨s', hA⟩ : ∃ z, z = (T.setVm s.vm).setFrames (.invoking m args :: below) := ⟨_, rfl⟩
  rw [← hA] at Y
  have hvm : s'.vm = s.vm := by rw [hA]; rfl
  have hhp : s'.heap = H := by rw [hA]; exact hT
  have hW0 : s.WarmedH s'.vm := by rw [hvm]; exact State.WarmedH.refl s
  have hat' : ∀ w ∈ vx_atS own ic cls names, w.before args s' = true := fun w hw => vx_ot_at hW0 hvm.symm (hgood w (List.mem_cons_of_mem _ (List.mem_cons_of_mem _ hw))) (hat w hw)
  have hk' : (Cond.classLink own ik cls).before args s' = true := vx_ot_at hW0 hvm.symm (hgood _ List.mem_cons_self) hk
  have hini' : (Cond.initialized cls).before args s' = true := vx_ot_at hW0 hvm.symm (hgood _ (List.mem_cons_of_mem _ List.mem_cons_self)) hini
  have hU' : vx_Zq Bundle.tN "UNASSIGNED_STACK" Bundle.steD A s' s'.heap := by rw [hhp]; exact vx_Zq.moved hW0.alike (hU.kept hS.2.1)
  have hN' : vx_Zq Bundle.tN "SUPPRESSED_SENTINEL" Bundle.listD A s' s'.heap := by rw [hhp]; exact vx_Zq.moved hW0.alike (hN.kept hS.2.1)
  have h : ∀ w ∈ Bundle.ownAtoms own ic cls names, w.before args s' = true := vx_own hat' (vx_isRefq hU'.1) (vx_isRefq hN'.1) hU'.2.word hN'.2.word
  have hown' : s'.vm.findClass own = some m.cls := by rw [hvm]; exact hown
  have hins : (Cond.instantiable cls 6).before args s' = true := h _ (by simp [Bundle.ownAtoms])
  obtain ⟨vm₁, cX, kX, hfX, hkX, -, -, X₁, st1⟩ := Y.newCold hexec (own := own) (C := cls) (index := ik) (n := 6) hown' hk' hins hini'
    (g := F0 m pc ls rest) rfl (by rw [hb]; exact d0) (Nat.le_refl _) (Nat.le_refl _)
  generalize hT1 : (T.setVm vm₁).pushCell { cls := cX, slots := kX.instanceTypes.map defaultValue, vm := .none } = T1 at X₁ st1
  have hcat : (Value.ref T.heap.size).category = 1 := rfl
  have hcellA : T1.heap[T.heap.size]? = some (freshCell cX kX) := by rw [← hT1]; exact State.heap_pushCell_size _ _
  have d3' : decode c.code (pc + 3) = .ok (.dup, 1) := by rw [hb]; exact d3
  have d4' : decode c.code (pc + 4) = .ok (.ldc_w is, 3) := by rw [hb]; exact d4
  have hstr' : vk_R own is text sa s' := vk_R.warm hW0 hstr
  obtain ⟨U, hsteps, hrun, hend, hW, hsame, ce, hce, hO⟩ := X₁.ctorThrowS hexec htr (own := own) (cls := cls) (names := names) (ic := ic) hown' hcls hnames h (fun x hx => nomatch hx) hfX hkX hcellA (by rw [hhp, hT]; exact Nat.le_refl _) (msg := .ref sa) rfl
    (g := { method := m, pc := pc + 7, locals := ls, stack := .ref sa :: .ref T.heap.size :: .ref T.heap.size :: rest, locked := none }) rfl hsize rfl rfl (rest := rest) rfl
    (by rw [hb]; exact d7) (by rw [hb]; exact d10) hout hRframes (by simp only [List.map_cons, List.sum_cons, hcat]; omega) hlocks
  obtain ⟨f1, f2⟩ := vx_frame hsame
  rw [hhp] at f1 f2
  have hWs : s.WarmedH U.vm := State.WarmedH.trans hW0 hW
  have hcl : s.vm.findClass cls = some ce.cls := by
    have h9 := hO.cls
    rw [hvm] at h9
    exact h9
  have hall : s.sameButNew ({ U with vm := s.vm } : State) locs mc ms := by
    subst hA
    obtain ⟨e1, e2⟩ := hsame
    rw [State.setFrames_setFrames] at e1
    have h2 : (T.setVm s.vm).sameButNew ({ U with vm := s.vm } : State) [] (0 + 1) (0 + 6) := ⟨e1, e2⟩
    have h3 := X.same.trans h2
    rw [List.append_nil] at h3
    exact h3.mono hc hs
  refine ⟨U, ?_, .threw T.heap.size, hrun, hend, Or.inr ⟨T.heap.size, rfl, cls, ce, locs, hx U hWs.alike f1 (fun q hq => f2 q hq (fun z hz => nomatch hz)), hce, hO.vm, hcl, hWs, hall, hf⟩⟩
  refine st1 _ ?_
  show Steps p.tables e below (T1.setTop { method := m, pc := pc + 3, locals := ls, stack := .ref T.heap.size :: rest, locked := none }) _
  jvm_step X₁.here [X₁.here.top, hexec, d3', Value.category]
  exact X₁.ldcStringW hexec (own := own) (text := text) (index := is) (a := sa) hown' hstr'.1 hstr'.2
    (g := { method := m, pc := pc + 4, locals := ls, stack := .ref T.heap.size :: .ref T.heap.size :: rest, locked := none }) rfl d4' _ hsteps
end Ends
section Bodies
variable {l : Launch}
theorem vx_ofW {y : MethodName} {ws ws' : List Cond} {rm : Room} {Pc : Array Value → State → Prop} {Qc : Array Value → State → Outcome → State → Prop} {XC : String → State → State → Prop} {mc ms : Nat} {free : Addr → Prop} {cc : ByteArray} {maxL : Nat} {ret : Option FieldType}
    (hy : plainName y.cls = true) (hw : ws = Cond.code y cc maxL ret :: ws')
    (body : ∀ p e s m args below meth c s₁, BodyLoose p l y (headSpec ws rm) cc maxL ret e s m args below meth c s₁ → c.maxLocals = maxL → (∀ x ∈ c.exceptionTable.toList, False) → Pc args s →
      W p l e (headSpec ws rm).room s m args below meth c s.heap [] 0 0 (vx_MQ below Qc XC args s mc ms free) (entryFrame m args maxL)) : vx_Met l y ws rm Pc Qc XC mc ms free := by
  refine MetFree.of_bodyS (code := cc) (maxLocals := maxL) (ret := ret) hy ?_ ?_
  · intro args s m h hn
    obtain ⟨meth, c, h1, h2, h3, h4, h5, h6, -, -⟩ := Cond.code_spec hn (atoms_spec (ws := ws) h _ (by rw [hw]; exact List.mem_cons_self))
    exact ⟨meth, c, h1, h2, h3, h4, h5, h6⟩
  · intro p e s m args below meth c s₁ B hml hP _
    have hh0 : s₁.heap = s.heap := by rw [B.state]; rfl
    have ht : ∀ x ∈ c.exceptionTable.toList, False := by
      obtain ⟨meth9, c9, h1, h2, -, -, -, -, h7, -⟩ := Cond.code_spec B.named (atoms_spec (ws := ws) B.pre _ (by rw [hw]; exact List.mem_cons_self))
      cases Option.some.inj (h1.symm.trans B.method)
      cases Option.some.inj (h2.symm.trans (Stand.of_body B).code)
      intro x hx
      rw [Array.isEmpty_iff.mp h7] at hx
      cases hx
    obtain ⟨t, a1, o, b1, b2, b3⟩ := body p e s m args below meth c s₁ B hml ht hP s₁ hh0 (Stand.of_body B)
    exact ⟨t, o, a1, b1, b2, b3⟩
/-- the table of a body with handlers -/
theorem vx_table {p : Program} {x y : MethodName} {S : Spec} {cc bytes : ByteArray} {maxL maxL' : Nat} {ret ret' : Option FieldType} {e : Env} {s s₁ : State} {m : MethodId} {args : Array Value} {below : List Frame} {meth : Method} {c : Code} {hh : List (Nat × Nat × Nat × Nat)}
    (B : BodyLoose p l y S cc maxL ret e s m args below meth c s₁) (h : (Cond.codeWith y bytes maxL' ret' hh).before args s = true) : c.exceptionTable.toList = tableOf hh := by
  obtain ⟨m9, meth9, c9, hn9, h1, h2, -, -, h6, -⟩ := Cond.codeWith_spec h
  cases Option.some.inj (hn9.symm.trans B.named)
  cases Option.some.inj (h1.symm.trans B.method)
  cases Option.some.inj (h2.symm.trans (Stand.of_body B).code)
  rw [← h6, table_eq]
end Bodies
end VXA
/-! ===== END ===== -/
/-! ===== BEGIN a static call of a method with an exception table ===== -/
section VXS
variable {p : Program} {l : Launch} {e : Env} {R : Room} {s : State} {m : MethodId} {args : Array Value} {below : List Frame} {meth : Method} {c : Code} {T : State} {H : Heap} {locs : List Loc} {cells slots : Nat}
abbrev vx_CSW (R : Room) (s : State) (args : Array Value) (own : String) (index : Nat) (y : MethodName) (bytes : ByteArray) (maxL : Nat) (ret : Option FieldType) (hh : List (Nat × Nat × Nat × Nat)) (ws : List Cond) (rm : Room) (mc ms n : Nat) : Prop :=
  (rm.cells = mc ∧ rm.slots = ms ∧ rm.frames + 1 ≤ R.frames ∧ 8 + (maxL + 11) + rm.locals ≤ R.locals ∧ (∀ w ∈ ws, ∀ (a' : Array Value) (U : State), s.WarmedH U.vm → w.before a' U = true) ∧ Cond.codeWith y bytes maxL ret hh ∈ ws) ∧
  (Cond.codeWith y bytes maxL ret hh).before args s = true ∧ (Cond.initialized y.cls).before args s = true ∧ (y.cls ≠ "java/lang/invoke/MethodHandle" ∧ y.cls ≠ "java/lang/invoke/VarHandle") ∧
  (∀ sig, parseMethodDescriptor y.desc = some sig → n = sig.parameters.length) ∧ (Cond.methodLink own index y).before args s = true ∧ (Cond.static y).before args s = true
theorem vx_cwSW {own : String} {index maxL mc ms : Nat} {y : MethodName} {bytes : ByteArray} {ret : Option FieldType} {hh : List (Nat × Nat × Nat × Nat)} {Ts ws ws' : List Cond} {rm : Room} (n : Nat) (ht : ∀ w ∈ Ts, w.before args s = true) (hT : GoodIn Ts (va_wsS own index y ws)) (hw : ws = Cond.codeWith y bytes maxL ret hh :: ws') (hrc : rm.cells = mc) (hrs : rm.slots = ms)
    (hd : y.cls ≠ "java/lang/invoke/MethodHandle" ∧ y.cls ≠ "java/lang/invoke/VarHandle" ∧ (parseMethodDescriptor y.desc).map (fun d => d.parameters.length) = some n) (hR : rm.frames + 1 ≤ R.frames ∧ 8 + (maxL + 11) + rm.locals ≤ R.locals) :
    vx_CSW R s args own index y bytes maxL ret hh ws rm mc ms n := by
  have ok : ∀ w ∈ va_wsS own index y ws, w.before args s = true := fun w h => ht w (hT w h).1
  have hG : GoodIn Ts ws := fun w h => hT w (by unfold va_wsS; exact List.mem_append_right _ h)
  have hc : Cond.codeWith y bytes maxL ret hh ∈ ws := by rw [hw]; exact List.mem_cons_self
  refine ⟨⟨hrc, hrs, hR.1, hR.2, pay_in ht hG, hc⟩, ht _ (hG _ hc).1, ok _ (by simp [va_wsS]), ⟨hd.1, hd.2.1⟩, fun sig h => ?_, ok _ (by simp [va_wsS]), ok _ (by simp [va_wsS])⟩
  have h2 := hd.2.2
  rw [h] at h2
  exact (Option.some.inj h2).symm
theorem vx_callSW (X : Stand p l e R s m args below meth c T locs cells slots) (hexec : p.tables.exec = Jvm.exec) {own : String} {index : Nat} {y : MethodName} {bytes : ByteArray} {maxL : Nat} {ret : Option FieldType} {hh : List (Nat × Nat × Nat × Nat)}
    (hown : s.vm.findClass own = some m.cls) (hlink : (Cond.methodLink own index y).before args s = true) (hstat : (Cond.static y).before args s = true) (hinit : (Cond.initialized y.cls).before args s = true)
    (hcode : (Cond.codeWith y bytes maxL ret hh).before args s = true) (hy : y.cls ≠ "java/lang/invoke/MethodHandle" ∧ y.cls ≠ "java/lang/invoke/VarHandle")
    {W9 : Nat} {Pre : Pt → Array Value → Prop} {Post : Pt → Array Value → Option Value → Pt → Prop} (hK : Back l R p e below s args y 3 W9 Pre Post)
    {g : JFrame} (hg : g.method = m) (hsize : g.locals.size = c.maxLocals) {argsL rest : List Value} (hlen : ∀ sig, parseMethodDescriptor y.desc = some sig → argsL.length = sig.parameters.length)
    (hstack : g.stack = argsL.reverse ++ rest) (hW : 2 * g.monitorRoom + (rest.map fun v => v.category).sum ≤ W9) (hdg : decode c.code g.pc = .ok (.invokestatic index, 3))
    (hpre : ∀ vm₁, s.WarmedH vm₁ → Pre ⟨T.setVm vm₁, locs, cells, slots⟩ argsL.toArray) :
    ∃ (v : Option Value) (vm₁ : Vm) (B : Pt), s.WarmedH vm₁ ∧ Stand p l e R s m args below meth c B.U B.locs B.cells B.slots ∧ Post ⟨T.setVm vm₁, locs, cells, slots⟩ argsL.toArray v B ∧
      ∀ target, Steps p.tables e below (B.U.setTop { g with pc := g.pc + 3, stack := v.toList ++ rest }) target → Steps p.tables e below (T.setTop g) target := by
  obtain ⟨mk, methM, cM, hnamed, hmethM, -, -, -, -, -, -, hsigM⟩ := Cond.codeWith_spec hcode
  have hstatic : methM.isStatic = true := Cond.static_spec hnamed hmethM hstat
  obtain ⟨kP, hkP, -⟩ := className_of_methodNamed hnamed
  have hinitP : kP.init = .initialized := Cond.initialized_spec (findClass_of_methodNamed hnamed) hkP hinit
  obtain ⟨vm₁, X₁, hstep₁⟩ := X.invokestatic hexec hown hlink hnamed hmethM hstatic hkP hinitP hy (g := g) hg (argsL := argsL) (rest := rest) (hlen _ hsigM) hstack hdg
  obtain ⟨v, B, X', hpost, hsteps⟩ := hK m meth c ⟨T.setVm vm₁, locs, cells, slots⟩ { g with stack := rest } (.invokestatic index) mk argsL.toArray X₁ hg hsize hdg hW (X₁.named hnamed) (hpre vm₁ X₁.warmed)
  exact ⟨v, vm₁, B, X₁.warmed, X', hpost, fun target h => hstep₁ _ fun acts => by rw [doInvoke_state]; exact hsteps.trans h⟩
theorem vx_runSW {y : MethodName} {bytes cc : ByteArray} {maxL nL mc ms n index : Nat} {ret : Option FieldType} {hh : List (Nat × Nat × Nat × Nat)} {ws : List Cond} {rm : Room} {Pc : Array Value → State → Prop} {Qc : Array Value → State → Outcome → State → Prop} {free : Addr → Prop} {Ts : List Cond} {own : String} {As rest : List Value} {g : JFrame}
    (S : CallFix p m c cc nL s args Ts own) (hM : Met l y ws rm Pc Qc mc ms free) (cw : vx_CSW R s args own index y bytes maxL ret hh ws rm mc ms n) (hp : PreS s H Pc As)
    (hg : g.method = m) (hn : As.length = n) (hsize : g.locals.size = nL) (hstack : g.stack = As.reverse ++ rest) (hW : 2 * g.monitorRoom + (rest.map fun v => v.category).sum ≤ 8) (hdg : decode cc g.pc = .ok (.invokestatic index, 3)) (hf : cells + mc ≤ R.cells ∧ slots + ms ≤ R.slots) :
    va_Run p l e R s m args below meth c H locs cells slots mc ms g rest (Qc As.toArray) (free) := by
  obtain ⟨⟨hrc, hrs, hfr, hlo, hws, hcw⟩, hcode, hini, hy, hlen, hl, hstt⟩ := cw
  have hK : Back l R p e below s args y 3 8 (PreOf R mc ms Pc) (PostOf Qc mc ms free) := va_backW (hh := hh) (bytes := bytes) (maxL := maxL) (ret := ret) hM hp.1 hrc hrs hfr hlo hws hcw (fun a' U hW => word_at hW (Or.inl (by first | rfl | simp [Cond.onTables, Cond.keeps, Cond.steady])) hini)
  obtain ⟨hx, hb, hml, ho, -⟩ := S
  intro T hT X
  obtain ⟨v, vm₁, ⟨U', l2, c2, s2⟩, hW₁, X', ⟨g', mk, t, L, e1, e2, hq, h1, hL, h2, h3⟩, st⟩ := vx_callSW X hx (hh := hh) (bytes := bytes) (maxL := maxL) (ret := ret) ho hl hstt hini hcode hy hK hg (hsize.trans hml.symm) (argsL := As) (rest := rest) (fun sig h => hn.trans (hlen sig h)) hstack hW (by rw [hb]; exact hdg)
    (fun vm₁ hW₁ => ⟨hf.1, hf.2, hp.2 (T.setVm vm₁) hT hW₁⟩)
  dsimp only [Pt.U, Pt.locs, Pt.cells, Pt.slots] at X' e1 e2 h1 h2 h3 st
  subst h1; subst h2; subst h3
  exact ⟨v, (T.setVm vm₁).calling g' mk As.toArray, t, U', L, hT, X', hL, e1, e2, hq, st⟩
/-- a thing of a world lies in the heap -/
theorem vx_lt {D : va_G} {cl : List vw_C} {ws : va_W} {H1 : Heap} (h : va_P D cl ws H1) {k : Nat} {q : Nat × va_E} (hk : ws[k]? = some q) : q.1 < H1.size := (h k q hk).lt
end VXS
/-! ===== END ===== -/
/-! ===== BEGIN methods with a table of their own: called by a name, returning or throwing ===== -/
section VXH
/-! vx_backW, vx_callVX, vx_callSX, vx_callVW, vx_runVW, vx_runVX, vx_runSX, vx_ofWH follow the same proofs as their sisters above (Free/Laws.lean, Shelf42/LK1.lean); vx_outP calls Shelf42/NT130.lean (outThrough). -/
section
variable {l : Launch} {R : Room} {p : Program} {e : Env} {below : List Frame} {s : State} {sargs : Array Value} {y : MethodName} {len W9 : Nat}
theorem vx_backW {ws : List Cond} {rm : Room} {Pc : Array Value → State → Prop} {Qc : Array Value → State → Outcome → State → Prop} {XC : String → State → State → Prop} {mc ms : Nat} {free : Addr → Prop} {bytes : ByteArray} {maxL : Nat} {ret : Option FieldType} {hh : List (Nat × Nat × Nat × Nat)}
    (hM : vx_Met l y ws rm Pc Qc XC mc ms free) (hblind : FrameBlind Pc) (hrc : rm.cells = mc) (hrs : rm.slots = ms)
    (hframes : rm.frames + 1 ≤ R.frames) (hlocals : W9 + (maxL + 11) + rm.locals ≤ R.locals)
    (hws : ∀ w ∈ ws, ∀ a' U, s.WarmedH U.vm → w.before a' U = true) (hcode : Cond.codeWith y bytes maxL ret hh ∈ ws) (hinit : ∀ a' U, s.WarmedH U.vm → (Cond.initialized y.cls).before a' U = true) :
    vx_Back l R p e below s sargs y len W9 (PreOf R mc ms Pc) (PostOf Qc mc ms free) (vx_Post XC mc ms free) := by
  intro m meth c A g ig mk a X hg hsize hdg hW hn hp
  have h1 : (headSpec ws rm).pre.before a A.U = true := atoms_intro fun w hw => hws w hw _ _ X.warmed
  have h2 : (Cond.codeWith y bytes maxL ret hh).before a A.U = true := hws _ hcode _ _ X.warmed
  have h3 : (Cond.initialized y.cls).before a A.U = true := hinit _ _ X.warmed
  have h4 : A.cells + (headSpec ws rm).room.cells ≤ R.cells := by rw [show (headSpec ws rm).room.cells = mc from hrc]; exact hp.1
  have h5 : A.slots + (headSpec ws rm).room.slots ≤ R.slots := by rw [show (headSpec ws rm).room.slots = ms from hrs]; exact hp.2.1
  have hPc : Pc a (A.U.calling g mk a) := hblind _ _ _ _ hp.2.2
  obtain ⟨U, Ls, c0, s0⟩ := A
  dsimp only [Pt.U, Pt.locs, Pt.cells, Pt.slots] at h1 h2 h3 h4 h5 X hn hPc ⊢
  obtain ⟨m9, methY, cY, hn9, hmY, hcY, -, hlY, -⟩ := Cond.codeWith_spec h2
  cases Option.some.inj (hn9.symm.trans hn)
  obtain ⟨kY, hkY, -⟩ := className_of_methodNamed hn
  have hinitY : kY.init = .initialized := Cond.initialized_spec (findClass_of_methodNamed hn) hkY h3
  have h : At U g.method c below := by rw [hg]; exact X.here
  have hlocals9 : W9 + (maxL + 11) + (headSpec ws rm).room.locals ≤ R.locals := hlocals
  have happ : (headSpec ws rm).appliesLoose y e.platform (U.calling g mk a) = true :=
    Spec.appliesLoose_calling (g := g) h hdg hn hkY hinitY
      (X.room_calling (g := g) (R' := (headSpec ws rm).room) hsize hmY hcY hframes (by rw [hlY]; omega) h4 h5) h1
  obtain ⟨mid, hmid⟩ := h.above
  have hfr : (U.setTop g).frames = (.java g :: mid) ++ below := by rw [State.frames_setTop' g h.top, hmid]; rfl
  obtain ⟨o, s₂, hsteps, -, hend, hq⟩ := Steps.callFree hM p X.admits X.cas X.clock (acts := []) hfr happ hPc trivial
  have hq' : vx_Q Qc XC mc ms free a (U.calling g mk a) o s₂ := hq
  rw [State.frames_setTop' g h.top] at hend
  obtain ⟨g₀, hg0⟩ := Option.isSome_iff_exists.mp h.top
  obtain ⟨r, hr⟩ := State.topJava?_eq_some.mp hg0
  have hr' : (({ U with heap := s₂.heap, slotsUsed := s₂.slotsUsed } : State).setVm s₂.vm).frames = .java g₀ :: r := hr
  rcases hq' with ⟨hqc, L, hfe, hL⟩ | ⟨q, rfl, E, ce, L, hx, hce, hcv, hcl, hW₂, hsm, hL⟩
  · obtain ⟨⟨v, rfl⟩, hW₂, e2, q2, q3, q4, q5, q6⟩ := id hfe
    have e3 : s₂ = ({ (U.calling g mk a).setFrames s₂.frames with heap := s₂.heap, slotsUsed := s₂.slotsUsed } : State).setVm s₂.vm := by
      have : s₂ = ({ s₂ with vm := (U.calling g mk a).vm } : State).setVm s₂.vm := rfl
      rw [e2] at this
      exact this
    obtain ⟨c₂, i₂, len₂, hc₂, hd₂, hf₂⟩ := hend
    have hW' : U.WarmedH s₂.vm := hW₂
    have hcc : c₂ = c := by
      have h1 : s₂.code? g.method = U.code? g.method := by
        rw [State.code?_eq, State.code?_eq, hW'.alike.method?]
      exact Option.some.inj (hc₂.symm.trans (h1.trans h.code))
    subst hcc
    have hlen : len₂ = len := by rw [hdg] at hd₂; cases hd₂; rfl
    subst hlen
    have hs₂ : s₂ = (({ U with heap := s₂.heap, slotsUsed := s₂.slotsUsed } : State).setVm s₂.vm).setTop { g with pc := g.pc + len₂, stack := v.toList ++ g.stack } := by
      refine e3.trans ?_
      rw [hf₂, State.calling_eq h.top, State.setFrames_setFrames, State.setTop_of_frames _ hr', hr]
      rfl
    have hsame : U.sameButNew ({ U with heap := s₂.heap, slotsUsed := s₂.slotsUsed } : State) L mc ms := by
      refine ⟨?_, q2, q3, q4, q5, q6⟩
      obtain ⟨t, ht, -⟩ := State.frames_cons hr
      show ({ U with heap := s₂.heap, slotsUsed := s₂.slotsUsed } : State) = { U.setFrames U.frames with heap := s₂.heap, slotsUsed := s₂.slotsUsed }
      rw [State.setFrames_self ht]
    subst hg
    refine Or.inl ⟨v, ⟨(({ U with heap := s₂.heap, slotsUsed := s₂.slotsUsed } : State).setVm s₂.vm), Ls ++ L, c0 + mc, s0 + ms⟩,
      ⟨X.admits, X.cas, X.clock, X.frames, X.room, X.hears, X.method, X.code, (X.here.setHeapUsed s₂.heap s₂.slotsUsed).setVm hW'.alike, X.tail, State.WarmedH.trans X.warmed hW', X.limits, X.bytes, X.same.trans (hsame.setVm s.vm)⟩,
      ⟨g, mk, s₂, L, rfl, rfl, hqc, rfl, hL, rfl, rfl⟩, ?_⟩
    show Steps p.tables e below _ ((({ U with heap := s₂.heap, slotsUsed := s₂.slotsUsed } : State).setVm s₂.vm).setTop { g with pc := g.pc + len₂, stack := v.toList ++ g.stack })
    rw [← hs₂]
    exact hsteps
  · obtain ⟨e2, q2, q3, q4, q5, q6⟩ := id hsm
    have e3 : s₂ = ({ (U.calling g mk a).setFrames s₂.frames with heap := s₂.heap, slotsUsed := s₂.slotsUsed } : State).setVm s₂.vm := by
      have : s₂ = ({ s₂ with vm := (U.calling g mk a).vm } : State).setVm s₂.vm := rfl
      rw [e2] at this
      exact this
    have hf₂ : s₂.frames = .throwing q :: .java g :: U.frames.tail := hend
    have hW' : U.WarmedH s₂.vm := hW₂
    have hs₂ : s₂ = ((({ U with heap := s₂.heap, slotsUsed := s₂.slotsUsed } : State).setVm s₂.vm).setTop g).pushFrame (.throwing q) := by
      refine e3.trans ?_
      rw [hf₂, State.calling_eq h.top, State.setFrames_setFrames, State.pushFrame, State.frames_setTop _ hr', State.setTop_of_frames _ hr', State.setFrames_setFrames, hr]
      rfl
    have hsame : U.sameButNew ({ U with heap := s₂.heap, slotsUsed := s₂.slotsUsed } : State) L mc ms := by
      refine ⟨?_, q2, q3, q4, q5, q6⟩
      obtain ⟨t, ht, -⟩ := State.frames_cons hr
      show ({ U with heap := s₂.heap, slotsUsed := s₂.slotsUsed } : State) = { U.setFrames U.frames with heap := s₂.heap, slotsUsed := s₂.slotsUsed }
      rw [State.setFrames_self ht]
    subst hg
    refine Or.inr ⟨q, ⟨(({ U with heap := s₂.heap, slotsUsed := s₂.slotsUsed } : State).setVm s₂.vm), Ls ++ L, c0 + mc, s0 + ms⟩,
      ⟨X.admits, X.cas, X.clock, X.frames, X.room, X.hears, X.method, X.code, (X.here.setHeapUsed s₂.heap s₂.slotsUsed).setVm hW'.alike, X.tail, State.WarmedH.trans X.warmed hW', X.limits, X.bytes, X.same.trans (hsame.setVm s.vm)⟩,
      ⟨g, mk, s₂, L, E, ce, rfl, rfl, hx, hce, hcv, hcl, rfl, hL, rfl, rfl⟩, ?_⟩
    show Steps p.tables e below _ (((({ U with heap := s₂.heap, slotsUsed := s₂.slotsUsed } : State).setVm s₂.vm).setTop g).pushFrame (.throwing q))
    rw [← hs₂]
    exact hsteps
end
variable {p : Program} {l : Launch} {e : Env} {R : Room} {s : State} {m : MethodId} {args : Array Value} {below : List Frame} {meth : Method} {c : Code} {T : State} {H : Heap} {locs : List Loc} {cells slots : Nat}
theorem vx_callVX (X : Stand p l e R s m args below meth c T locs cells slots) (hexec : p.tables.exec = Jvm.exec) {own C : String} {index : Nat} {y : MethodName} {bytes : ByteArray} {maxL : Nat} {ret : Option FieldType} {hh : List (Nat × Nat × Nat × Nat)}
    (hown : s.vm.findClass own = some m.cls) (hlink : (Cond.methodLink own index y).before args s = true) (hinst : (Cond.instanceMethod y).before args s = true) (hsel : (Cond.selects C y y).before args s = true)
    (hcode : (Cond.codeWith y bytes maxL ret hh).before args s = true) (hy : y.cls ≠ "java/lang/invoke/MethodHandle" ∧ y.cls ≠ "java/lang/invoke/VarHandle")
    {W9 : Nat} {Pre : Pt → Array Value → Prop} {Post : Pt → Array Value → Option Value → Pt → Prop} {PostX : Pt → Array Value → Addr → Pt → Prop} (hK : vx_Back l R p e below s args y 3 W9 Pre Post PostX)
    {b : Addr} {cellB : Cell} (hcell : T.heap[b]? = some cellB) (hobj : cellB.vm.isStatics = false) (hcls : s.vm.findClass C = some cellB.cls)
    {g : JFrame} (hg : g.method = m) (hsize : g.locals.size = c.maxLocals) {argsL rest : List Value} (hlen : ∀ sig, parseMethodDescriptor y.desc = some sig → argsL.length = sig.parameters.length)
    (hstack : g.stack = argsL.reverse ++ .ref b :: rest) (hW : 2 * g.monitorRoom + (rest.map fun v => v.category).sum ≤ W9) (hdg : decode c.code g.pc = .ok (.invokevirtual index, 3))
    (hpre : ∀ vm₁, s.WarmedH vm₁ → Pre ⟨T.setVm vm₁, locs, cells, slots⟩ (Value.ref b :: argsL).toArray) :
    (∃ (v : Option Value) (vm₁ : Vm) (B : Pt), s.WarmedH vm₁ ∧ Stand p l e R s m args below meth c B.U B.locs B.cells B.slots ∧ Post ⟨T.setVm vm₁, locs, cells, slots⟩ (Value.ref b :: argsL).toArray v B ∧
      ∀ target, Steps p.tables e below (B.U.setTop { g with pc := g.pc + 3, stack := v.toList ++ rest }) target → Steps p.tables e below (T.setTop g) target) ∨
    (∃ (q : Addr) (vm₁ : Vm) (B : Pt), s.WarmedH vm₁ ∧ Stand p l e R s m args below meth c B.U B.locs B.cells B.slots ∧ PostX ⟨T.setVm vm₁, locs, cells, slots⟩ (Value.ref b :: argsL).toArray q B ∧
      Steps p.tables e below (T.setTop g) ((B.U.setTop { g with stack := rest }).pushFrame (.throwing q))) := by
  obtain ⟨mk, methM, hnamed, hmethM, hstM, habM⟩ := Cond.instanceMethod_spec hinst
  obtain ⟨m8, methM', cM, hn8, hmethM', -, -, -, -, -, -, hsigM⟩ := Cond.codeWith_spec hcode
  cases Option.some.inj (hn8.symm.trans hnamed)
  cases hmethM.symm.trans hmethM'
  obtain ⟨c2, r2, m2, q1, q2, q3, q4, kP, hkP, hkPi⟩ := Cond.selects_spec hsel
  cases hcls.symm.trans q1
  cases (State.methodFound?_of_named hnamed hy).symm.trans q2
  cases hnamed.symm.trans q3
  have hselP : selectMethod e.platform s.vm cellB.cls mk = .method mk := by rw [Launch.admits_selectMethod X.admits]; exact q4
  obtain ⟨vm₁, X₁, hstep₁⟩ := X.invokevirtual hexec hown hlink hnamed hmethM hstM hkP hkPi hy (a := b) (cell := cellB) hcell
    (fun z h => by rw [h] at hobj; cases hobj) hselP hmethM habM hkP hkPi (g := g) hg (argsL := argsL) (rest := rest) (hlen _ hsigM) hstack hdg
  rcases hK m meth c ⟨T.setVm vm₁, locs, cells, slots⟩ { g with stack := rest } (.invokevirtual index) mk (Value.ref b :: argsL).toArray X₁ hg hsize hdg hW (X₁.named hnamed) (hpre vm₁ X₁.warmed) with ⟨v, B, X', hpost, hsteps⟩ | ⟨q, B, X', hpost, hsteps⟩
  · exact Or.inl ⟨v, vm₁, B, X₁.warmed, X', hpost, fun target h => hstep₁ _ fun acts => by rw [doInvoke_state]; exact hsteps.trans h⟩
  · exact Or.inr ⟨q, vm₁, B, X₁.warmed, X', hpost, hstep₁ _ fun acts => by rw [doInvoke_state]; exact hsteps⟩
theorem vx_callSX (X : Stand p l e R s m args below meth c T locs cells slots) (hexec : p.tables.exec = Jvm.exec) {own : String} {index : Nat} {y : MethodName} {bytes : ByteArray} {maxL : Nat} {ret : Option FieldType} {hh : List (Nat × Nat × Nat × Nat)}
    (hown : s.vm.findClass own = some m.cls) (hlink : (Cond.methodLink own index y).before args s = true) (hstat : (Cond.static y).before args s = true) (hinit : (Cond.initialized y.cls).before args s = true)
    (hcode : (Cond.codeWith y bytes maxL ret hh).before args s = true) (hy : y.cls ≠ "java/lang/invoke/MethodHandle" ∧ y.cls ≠ "java/lang/invoke/VarHandle")
    {W9 : Nat} {Pre : Pt → Array Value → Prop} {Post : Pt → Array Value → Option Value → Pt → Prop} {PostX : Pt → Array Value → Addr → Pt → Prop} (hK : vx_Back l R p e below s args y 3 W9 Pre Post PostX)
    {g : JFrame} (hg : g.method = m) (hsize : g.locals.size = c.maxLocals) {argsL rest : List Value} (hlen : ∀ sig, parseMethodDescriptor y.desc = some sig → argsL.length = sig.parameters.length)
    (hstack : g.stack = argsL.reverse ++ rest) (hW : 2 * g.monitorRoom + (rest.map fun v => v.category).sum ≤ W9) (hdg : decode c.code g.pc = .ok (.invokestatic index, 3))
    (hpre : ∀ vm₁, s.WarmedH vm₁ → Pre ⟨T.setVm vm₁, locs, cells, slots⟩ argsL.toArray) :
    (∃ (v : Option Value) (vm₁ : Vm) (B : Pt), s.WarmedH vm₁ ∧ Stand p l e R s m args below meth c B.U B.locs B.cells B.slots ∧ Post ⟨T.setVm vm₁, locs, cells, slots⟩ argsL.toArray v B ∧
      ∀ target, Steps p.tables e below (B.U.setTop { g with pc := g.pc + 3, stack := v.toList ++ rest }) target → Steps p.tables e below (T.setTop g) target) ∨
    (∃ (q : Addr) (vm₁ : Vm) (B : Pt), s.WarmedH vm₁ ∧ Stand p l e R s m args below meth c B.U B.locs B.cells B.slots ∧ PostX ⟨T.setVm vm₁, locs, cells, slots⟩ argsL.toArray q B ∧
      Steps p.tables e below (T.setTop g) ((B.U.setTop { g with stack := rest }).pushFrame (.throwing q))) := by
  obtain ⟨mk, methM, cM, hnamed, hmethM, -, -, -, -, -, -, hsigM⟩ := Cond.codeWith_spec hcode
  have hstatic : methM.isStatic = true := Cond.static_spec hnamed hmethM hstat
  obtain ⟨kP, hkP, -⟩ := className_of_methodNamed hnamed
  have hinitP : kP.init = .initialized := Cond.initialized_spec (findClass_of_methodNamed hnamed) hkP hinit
  obtain ⟨vm₁, X₁, hstep₁⟩ := X.invokestatic hexec hown hlink hnamed hmethM hstatic hkP hinitP hy (g := g) hg (argsL := argsL) (rest := rest) (hlen _ hsigM) hstack hdg
  rcases hK m meth c ⟨T.setVm vm₁, locs, cells, slots⟩ { g with stack := rest } (.invokestatic index) mk argsL.toArray X₁ hg hsize hdg hW (X₁.named hnamed) (hpre vm₁ X₁.warmed) with ⟨v, B, X', hpost, hsteps⟩ | ⟨q, B, X', hpost, hsteps⟩
  · exact Or.inl ⟨v, vm₁, B, X₁.warmed, X', hpost, fun target h => hstep₁ _ fun acts => by rw [doInvoke_state]; exact hsteps.trans h⟩
  · exact Or.inr ⟨q, vm₁, B, X₁.warmed, X', hpost, hstep₁ _ fun acts => by rw [doInvoke_state]; exact hsteps⟩
theorem vx_callVW (X : Stand p l e R s m args below meth c T locs cells slots) (hexec : p.tables.exec = Jvm.exec) {own C : String} {index : Nat} {y : MethodName} {bytes : ByteArray} {maxL : Nat} {ret : Option FieldType} {hh : List (Nat × Nat × Nat × Nat)}
    (hown : s.vm.findClass own = some m.cls) (hlink : (Cond.methodLink own index y).before args s = true) (hinst : (Cond.instanceMethod y).before args s = true) (hsel : (Cond.selects C y y).before args s = true)
    (hcode : (Cond.codeWith y bytes maxL ret hh).before args s = true) (hy : y.cls ≠ "java/lang/invoke/MethodHandle" ∧ y.cls ≠ "java/lang/invoke/VarHandle")
    {W9 : Nat} {Pre : Pt → Array Value → Prop} {Post : Pt → Array Value → Option Value → Pt → Prop} (hK : Back l R p e below s args y 3 W9 Pre Post)
    {b : Addr} {cellB : Cell} (hcell : T.heap[b]? = some cellB) (hobj : cellB.vm.isStatics = false) (hcls : s.vm.findClass C = some cellB.cls)
    {g : JFrame} (hg : g.method = m) (hsize : g.locals.size = c.maxLocals) {argsL rest : List Value} (hlen : ∀ sig, parseMethodDescriptor y.desc = some sig → argsL.length = sig.parameters.length)
    (hstack : g.stack = argsL.reverse ++ .ref b :: rest) (hW : 2 * g.monitorRoom + (rest.map fun v => v.category).sum ≤ W9) (hdg : decode c.code g.pc = .ok (.invokevirtual index, 3))
    (hpre : ∀ vm₁, s.WarmedH vm₁ → Pre ⟨T.setVm vm₁, locs, cells, slots⟩ (Value.ref b :: argsL).toArray) :
    ∃ (v : Option Value) (vm₁ : Vm) (B : Pt), s.WarmedH vm₁ ∧ Stand p l e R s m args below meth c B.U B.locs B.cells B.slots ∧ Post ⟨T.setVm vm₁, locs, cells, slots⟩ (Value.ref b :: argsL).toArray v B ∧
      ∀ target, Steps p.tables e below (B.U.setTop { g with pc := g.pc + 3, stack := v.toList ++ rest }) target → Steps p.tables e below (T.setTop g) target := by
  obtain ⟨mk, methM, hnamed, hmethM, hstM, habM⟩ := Cond.instanceMethod_spec hinst
  obtain ⟨m8, methM', cM, hn8, hmethM', -, -, -, -, -, -, hsigM⟩ := Cond.codeWith_spec hcode
  cases Option.some.inj (hn8.symm.trans hnamed)
  cases hmethM.symm.trans hmethM'
  obtain ⟨c2, r2, m2, q1, q2, q3, q4, kP, hkP, hkPi⟩ := Cond.selects_spec hsel
  cases hcls.symm.trans q1
  cases (State.methodFound?_of_named hnamed hy).symm.trans q2
  cases hnamed.symm.trans q3
  have hselP : selectMethod e.platform s.vm cellB.cls mk = .method mk := by rw [Launch.admits_selectMethod X.admits]; exact q4
  obtain ⟨vm₁, X₁, hstep₁⟩ := X.invokevirtual hexec hown hlink hnamed hmethM hstM hkP hkPi hy (a := b) (cell := cellB) hcell
    (fun z h => by rw [h] at hobj; cases hobj) hselP hmethM habM hkP hkPi (g := g) hg (argsL := argsL) (rest := rest) (hlen _ hsigM) hstack hdg
  obtain ⟨v, B, X', hpost, hsteps⟩ := hK m meth c ⟨T.setVm vm₁, locs, cells, slots⟩ { g with stack := rest } (.invokevirtual index) mk (Value.ref b :: argsL).toArray X₁ hg hsize hdg hW (X₁.named hnamed) (hpre vm₁ X₁.warmed)
  exact ⟨v, vm₁, B, X₁.warmed, X', hpost, fun target h => hstep₁ _ fun acts => by rw [doInvoke_state]; exact hsteps.trans h⟩
abbrev vx_CVW (R : Room) (s : State) (args : Array Value) (own C : String) (index : Nat) (y : MethodName) (bytes : ByteArray) (maxL : Nat) (ret : Option FieldType) (hh : List (Nat × Nat × Nat × Nat)) (ws : List Cond) (rm : Room) (mc ms n : Nat) : Prop :=
  (rm.cells = mc ∧ rm.slots = ms ∧ rm.frames + 1 ≤ R.frames ∧ 8 + (maxL + 11) + rm.locals ≤ R.locals ∧ (∀ w ∈ ws, ∀ (a' : Array Value) (U : State), s.WarmedH U.vm → w.before a' U = true) ∧ Cond.codeWith y bytes maxL ret hh ∈ ws) ∧
  (Cond.codeWith y bytes maxL ret hh).before args s = true ∧ (Cond.initialized y.cls).before args s = true ∧ (y.cls ≠ "java/lang/invoke/MethodHandle" ∧ y.cls ≠ "java/lang/invoke/VarHandle") ∧
  (∀ sig, parseMethodDescriptor y.desc = some sig → n = sig.parameters.length) ∧ (Cond.methodLink own index y).before args s = true ∧ (Cond.instanceMethod y).before args s = true ∧ (Cond.selects C y y).before args s = true
theorem vx_cwVW {own C : String} {index maxL mc ms : Nat} {y : MethodName} {bytes : ByteArray} {ret : Option FieldType} {hh : List (Nat × Nat × Nat × Nat)} {Ts ws ws' : List Cond} {rm : Room} (n : Nat) (ht : ∀ w ∈ Ts, w.before args s = true) (hT : GoodIn Ts (wsV own index C y ws)) (hw : ws = Cond.codeWith y bytes maxL ret hh :: ws') (hrc : rm.cells = mc) (hrs : rm.slots = ms)
    (hd : y.cls = C ∧ y.cls ≠ "java/lang/invoke/MethodHandle" ∧ y.cls ≠ "java/lang/invoke/VarHandle" ∧ (parseMethodDescriptor y.desc).map (fun d => d.parameters.length) = some n) (hR : rm.frames + 1 ≤ R.frames ∧ 8 + (maxL + 11) + rm.locals ≤ R.locals) :
    vx_CVW R s args own C index y bytes maxL ret hh ws rm mc ms n := by
  obtain ⟨hC, hd⟩ := hd
  subst hC
  have ok : ∀ w ∈ wsV own index y.cls y ws, w.before args s = true := fun w h => ht w (hT w h).1
  have hG : GoodIn Ts ws := fun w h => hT w (by unfold wsV; exact List.mem_append_right _ h)
  have hc : Cond.codeWith y bytes maxL ret hh ∈ ws := by rw [hw]; exact List.mem_cons_self
  refine ⟨⟨hrc, hrs, hR.1, hR.2, pay_in ht hG, hc⟩, ht _ (hG _ hc).1, ok _ (by simp [wsV]), ⟨hd.1, hd.2.1⟩, fun sig h => ?_, ok _ (by simp [wsV]), ok _ (by simp [wsV]), ok _ (by simp [wsV])⟩
  have h2 := hd.2.2
  rw [h] at h2
  exact (Option.some.inj h2).symm
theorem vx_runVW {y : MethodName} {bytes cc : ByteArray} {maxL nL mc ms n index : Nat} {ret : Option FieldType} {hh : List (Nat × Nat × Nat × Nat)} {ws : List Cond} {rm : Room} {Pc : Array Value → State → Prop} {Qc : Array Value → State → Outcome → State → Prop} {free : Addr → Prop} {Ts : List Cond} {own C : String} {b : Addr} {As rest : List Value} {g : JFrame}
    (S : CallFix p m c cc nL s args Ts own) (hM : Met l y ws rm Pc Qc mc ms free) (cw : vx_CVW R s args own C index y bytes maxL ret hh ws rm mc ms n) (hp : PreV s H C b Pc As)
    (hg : g.method = m) (hn : As.length = n) (hsize : g.locals.size = nL) (hstack : g.stack = As.reverse ++ .ref b :: rest) (hW : 2 * g.monitorRoom + (rest.map fun v => v.category).sum ≤ 8) (hdg : decode cc g.pc = .ok (.invokevirtual index, 3)) (hf : cells + mc ≤ R.cells ∧ slots + ms ≤ R.slots) :
    va_Run p l e R s m args below meth c H locs cells slots mc ms g rest (Qc (Value.ref b :: As).toArray) free := by
  obtain ⟨⟨hrc, hrs, hfr, hlo, hws, hcw⟩, hcode, hini, hy, hlen, hl, hin, hse⟩ := cw
  have hK : Back l R p e below s args y 3 8 (PreOf R mc ms Pc) (PostOf Qc mc ms free) := va_backW (hh := hh) (bytes := bytes) (maxL := maxL) (ret := ret) hM hp.1 hrc hrs hfr hlo hws hcw (fun a' U hW => word_at hW (Or.inl (by first | rfl | simp [Cond.onTables, Cond.keeps, Cond.steady])) hini)
  obtain ⟨hx, hb, hml, ho, -⟩ := S
  obtain ⟨-, ⟨cellB, hcB, hoB, hclB⟩, hPc⟩ := hp
  intro T hT X
  obtain ⟨v, vm₁, ⟨U', l2, c2, s2⟩, hW₁, X', ⟨g', mk, t, L, e1, e2, hq, h1, hL, h2, h3⟩, st⟩ := vx_callVW X hx (C := C) (hh := hh) (bytes := bytes) (maxL := maxL) (ret := ret) ho hl hin hse hcode hy hK (by rw [hT]; exact hcB) hoB hclB hg (hsize.trans hml.symm) (argsL := As) (rest := rest) (fun sig h => hn.trans (hlen sig h)) hstack hW (by rw [hb]; exact hdg)
    (fun vm₁ hW₁ => ⟨hf.1, hf.2, hPc (T.setVm vm₁) hT hW₁⟩)
  dsimp only [Pt.U, Pt.locs, Pt.cells, Pt.slots] at X' e1 e2 h1 h2 h3 st
  subst h1; subst h2; subst h3
  exact ⟨v, (T.setVm vm₁).calling g' mk (Value.ref b :: As).toArray, t, U', L, hT, X', hL, e1, e2, hq, st⟩
section
variable {y : MethodName} {bytes cc : ByteArray} {maxL nL mc ms n index : Nat} {ret : Option FieldType} {ws : List Cond} {rm : Room} {Pc : Array Value → State → Prop} {Qc : Array Value → State → Outcome → State → Prop} {XC : String → State → State → Prop} {free : Addr → Prop} {Ts : List Cond} {own C : String} {b : Addr} {As rest : List Value} {g : JFrame}
theorem vx_runVX {hh : List (Nat × Nat × Nat × Nat)} (S : CallFix p m c cc nL s args Ts own) (hM : vx_Met l y ws rm Pc Qc XC mc ms free) (cw : vx_CVW R s args own C index y bytes maxL ret hh ws rm mc ms n) (hp : PreV s H C b Pc As)
    (hg : g.method = m) (hn : As.length = n) (hsize : g.locals.size = nL) (hstack : g.stack = As.reverse ++ .ref b :: rest) (hW : 2 * g.monitorRoom + (rest.map fun v => v.category).sum ≤ 8) (hdg : decode cc g.pc = .ok (.invokevirtual index, 3)) (hf : cells + mc ≤ R.cells ∧ slots + ms ≤ R.slots) :
    vx_Run p l e R s m args below meth c H locs cells slots mc ms g rest (Qc (Value.ref b :: As).toArray) XC free := by
  obtain ⟨⟨hrc, hrs, hfr, hlo, hws, hcw⟩, hcode, hini, hy, hlen, hl, hin, hse⟩ := cw
  have hK : vx_Back l R p e below s args y 3 8 (PreOf R mc ms Pc) (PostOf Qc mc ms free) (vx_Post XC mc ms free) := vx_backW (hh := hh) (bytes := bytes) (maxL := maxL) (ret := ret) hM hp.1 hrc hrs hfr hlo hws hcw (fun a' U hW => word_at hW (Or.inl (by first | rfl | simp [Cond.onTables, Cond.keeps, Cond.steady])) hini)
  obtain ⟨hx, hb, hml, ho, -⟩ := S
  obtain ⟨-, ⟨cellB, hcB, hoB, hclB⟩, hPc⟩ := hp
  intro T hT X
  rcases vx_callVX X hx (C := C) (hh := hh) (bytes := bytes) (maxL := maxL) (ret := ret) ho hl hin hse hcode hy hK (by rw [hT]; exact hcB) hoB hclB hg (hsize.trans hml.symm) (argsL := As) (rest := rest) (fun sig h => hn.trans (hlen sig h)) hstack hW (by rw [hb]; exact hdg)
    (fun vm₁ hW₁ => ⟨hf.1, hf.2, hPc (T.setVm vm₁) hT hW₁⟩) with ⟨v, vm₁, ⟨U', l2, c2, s2⟩, hW₁, X', ⟨g', mk, t, L, e1, e2, hq, h1, hL, h2, h3⟩, st⟩ | ⟨q, vm₁, ⟨U', l2, c2, s2⟩, hW₁, X', ⟨g', mk, t, L, E, ce, e1, e2, hq, hce, hcv, hcl, h1, hL, h2, h3⟩, st⟩
  · dsimp only [Pt.U, Pt.locs, Pt.cells, Pt.slots] at X' e1 e2 h1 h2 h3 st
    subst h1; subst h2; subst h3
    exact Or.inl ⟨v, (T.setVm vm₁).calling g' mk (Value.ref b :: As).toArray, t, U', L, hT, X', hL, e1, e2, hq, st⟩
  · dsimp only [Pt.U, Pt.locs, Pt.cells, Pt.slots] at X' e1 e2 h1 h2 h3 st hcl
    subst h1; subst h2; subst h3
    exact Or.inr ⟨q, (T.setVm vm₁).calling g' mk (Value.ref b :: As).toArray, t, U', L, E, ce, hT, X', hL, e1, e2, hq, hce, hcv, vx_cls hW₁ hcl, st⟩
theorem vx_runSX {hh : List (Nat × Nat × Nat × Nat)} (S : CallFix p m c cc nL s args Ts own) (hM : vx_Met l y ws rm Pc Qc XC mc ms free) (cw : vx_CSW R s args own index y bytes maxL ret hh ws rm mc ms n) (hp : PreS s H Pc As)
    (hg : g.method = m) (hn : As.length = n) (hsize : g.locals.size = nL) (hstack : g.stack = As.reverse ++ rest) (hW : 2 * g.monitorRoom + (rest.map fun v => v.category).sum ≤ 8) (hdg : decode cc g.pc = .ok (.invokestatic index, 3)) (hf : cells + mc ≤ R.cells ∧ slots + ms ≤ R.slots) :
    vx_Run p l e R s m args below meth c H locs cells slots mc ms g rest (Qc As.toArray) XC free := by
  obtain ⟨⟨hrc, hrs, hfr, hlo, hws, hcw⟩, hcode, hini, hy, hlen, hl, hstt⟩ := cw
  have hK : vx_Back l R p e below s args y 3 8 (PreOf R mc ms Pc) (PostOf Qc mc ms free) (vx_Post XC mc ms free) := vx_backW (hh := hh) (bytes := bytes) (maxL := maxL) (ret := ret) hM hp.1 hrc hrs hfr hlo hws hcw (fun a' U hW => word_at hW (Or.inl (by first | rfl | simp [Cond.onTables, Cond.keeps, Cond.steady])) hini)
  obtain ⟨hx, hb, hml, ho, -⟩ := S
  intro T hT X
  rcases vx_callSX X hx (hh := hh) (bytes := bytes) (maxL := maxL) (ret := ret) ho hl hstt hini hcode hy hK hg (hsize.trans hml.symm) (argsL := As) (rest := rest) (fun sig h => hn.trans (hlen sig h)) hstack hW (by rw [hb]; exact hdg)
    (fun vm₁ hW₁ => ⟨hf.1, hf.2, hp.2 (T.setVm vm₁) hT hW₁⟩) with ⟨v, vm₁, ⟨U', l2, c2, s2⟩, hW₁, X', ⟨g', mk, t, L, e1, e2, hq, h1, hL, h2, h3⟩, st⟩ | ⟨q, vm₁, ⟨U', l2, c2, s2⟩, hW₁, X', ⟨g', mk, t, L, E, ce, e1, e2, hq, hce, hcv, hcl, h1, hL, h2, h3⟩, st⟩
  · dsimp only [Pt.U, Pt.locs, Pt.cells, Pt.slots] at X' e1 e2 h1 h2 h3 st
    subst h1; subst h2; subst h3
    exact Or.inl ⟨v, (T.setVm vm₁).calling g' mk As.toArray, t, U', L, hT, X', hL, e1, e2, hq, st⟩
  · dsimp only [Pt.U, Pt.locs, Pt.cells, Pt.slots] at X' e1 e2 h1 h2 h3 st hcl
    subst h1; subst h2; subst h3
    exact Or.inr ⟨q, (T.setVm vm₁).calling g' mk As.toArray, t, U', L, E, ce, hT, X', hL, e1, e2, hq, hce, hcv, vx_cls hW₁ hcl, st⟩
end
end VXH
theorem vx_ofWH {l : Launch} {y : MethodName} {ws ws' : List Cond} {rm : Room} {Pc : Array Value → State → Prop} {Qc : Array Value → State → Outcome → State → Prop} {XC : String → State → State → Prop} {mc ms : Nat} {free : Addr → Prop} {cc : ByteArray} {maxL : Nat} {ret : Option FieldType} {hh : List (Nat × Nat × Nat × Nat)}
    (hy : plainName y.cls = true) (hw : ws = Cond.codeWith y cc maxL ret hh :: ws')
    (body : ∀ p e s m args below meth c s₁, BodyLoose p l y (headSpec ws rm) cc maxL ret e s m args below meth c s₁ → c.maxLocals = maxL → Pc args s →
      W p l e (headSpec ws rm).room s m args below meth c s.heap [] 0 0 (vx_MQ below Qc XC args s mc ms free) (entryFrame m args maxL)) : vx_Met l y ws rm Pc Qc XC mc ms free := by
  refine MetFree.of_bodyS (code := cc) (maxLocals := maxL) (ret := ret) hy ?_ ?_
  · intro args s m h hn
    obtain ⟨m9, meth, c, hn9, h1, h2, h3, h4, -, h5, h6, -⟩ := Cond.codeWith_spec (atoms_spec (ws := ws) h _ (by rw [hw]; exact List.mem_cons_self))
    cases hn.symm.trans hn9
    exact ⟨meth, c, h1, h2, h3, h4, h5, h6⟩
  · intro p e s m args below meth c s₁ B hml hP _
    have hh0 : s₁.heap = s.heap := by rw [B.state]; rfl
    obtain ⟨t, a1, o, b1, b2, b3⟩ := body p e s m args below meth c s₁ B hml hP s₁ hh0 (Stand.of_body B)
    exact ⟨t, o, a1, b1, b2, b3⟩
/-! ===== END ===== -/
end
section
/-! ===== BEGIN printed: names, fields, word lists, decode rows ===== -/
def RX0 : String := "BranchFilters$Filter"
def TX0 : u_T := fun k => match k with
  | 0 => ("BranchFilters$Filter", "held", "LBranchFilters$Row;", true)
  | 1 => ("BranchFilters$Filter", "past", "[I", true)
  | 2 => ("BranchFilters$Filter", "kind", "I", false)
  | 3 => ("BranchFilters$Filter", "distance", "I", false)
  | 4 => ("BranchFilters$Filter", "encoding", "Z", false)
  | 5 => ("BranchFilters$Filter", "place", "I", false)
  | 6 => ("BranchFilters$Filter", "here", "I", false)
  | 7 => ("BranchFilters$Filter", "given", "I", false)
  | 8 => ("BranchFilters$Filter", "replaced", "I", false)
  | 9 => ("BranchFilters$Filter", "mask", "I", false)
  | _ => ("BranchFilters$Filter", "last", "I", false)
def tyX0 : Nat → FieldType := fun k => match k with
  | 0 => .object "BranchFilters$Row"
  | 1 => .array .int
  | 2 => .int
  | 3 => .int
  | 4 => .boolean
  | 5 => .int
  | 6 => .int
  | 7 => .int
  | 8 => .int
  | 9 => .int
  | _ => .int
abbrev wsX00 : List Cond := u_ws RX0 TX0 11
theorem nmX0 : ∀ a, a < 11 → ∀ b, b < 11 → a ≠ b → (TX0 a).2.1 ≠ (TX0 b).2.1 := by decide +kernel
theorem tyX0_ok : ∀ k, k < 11 → parseFieldDescriptor (TX0 k).2.2.1 = some (tyX0 k) := by decide +kernel
abbrev cX0_init : ByteArray := prog_2_method_1_code
def yX0_init : MethodName := ⟨RX0, "<init>", "()V"⟩
abbrev cX0_become : ByteArray := prog_2_method_2_code
def yX0_become : MethodName := ⟨RX0, "become", "(II)V"⟩
abbrev cX0_restart : ByteArray := prog_2_method_3_code
def yX0_restart : MethodName := ⟨RX0, "restart", "(IZ)V"⟩
abbrev cX0_pass : ByteArray := prog_2_method_4_code
def yX0_pass : MethodName := ⟨RX0, "pass", "(LBranchFilters$Row;)V"⟩
abbrev cX0_giveRest : ByteArray := prog_2_method_5_code
def yX0_giveRest : MethodName := ⟨RX0, "giveRest", "(LBranchFilters$Row;)V"⟩
abbrev cX0_step : ByteArray := prog_2_method_6_code
def yX0_step : MethodName := ⟨RX0, "step", "()I"⟩
abbrev cX0_moved : ByteArray := prog_2_method_7_code
def yX0_moved : MethodName := ⟨RX0, "moved", "(II)I"⟩
abbrev cX0_stepDelta : ByteArray := prog_2_method_8_code
def yX0_stepDelta : MethodName := ⟨RX0, "stepDelta", "()I"⟩
abbrev cX0_stepArm : ByteArray := prog_2_method_9_code
def yX0_stepArm : MethodName := ⟨RX0, "stepArm", "()I"⟩
abbrev cX0_stepThumb : ByteArray := prog_2_method_10_code
def yX0_stepThumb : MethodName := ⟨RX0, "stepThumb", "()I"⟩
abbrev cX0_stepPower : ByteArray := prog_2_method_11_code
def yX0_stepPower : MethodName := ⟨RX0, "stepPower", "()I"⟩
abbrev cX0_stepSparc : ByteArray := prog_2_method_12_code
def yX0_stepSparc : MethodName := ⟨RX0, "stepSparc", "()I"⟩
abbrev cX0_stepRisc : ByteArray := prog_2_method_13_code
def yX0_stepRisc : MethodName := ⟨RX0, "stepRisc", "()I"⟩
abbrev cX0_replaceRiscJump : ByteArray := prog_2_method_14_code
def yX0_replaceRiscJump : MethodName := ⟨RX0, "replaceRiscJump", "(I)V"⟩
abbrev cX0_replaceRiscPair : ByteArray := prog_2_method_15_code
def yX0_replaceRiscPair : MethodName := ⟨RX0, "replaceRiscPair", "(III)V"⟩
abbrev cX0_stepX86 : ByteArray := prog_2_method_16_code
def yX0_stepX86 : MethodName := ⟨RX0, "stepX86", "()I"⟩
abbrev cX0_ageMask : ByteArray := prog_2_method_17_code
def yX0_ageMask : MethodName := ⟨RX0, "ageMask", "()V"⟩
abbrev cX0_maskAllows : ByteArray := prog_2_method_18_code
def yX0_maskAllows : MethodName := ⟨RX0, "maskAllows", "()Z"⟩
abbrev cX0_x86Target : ByteArray := prog_2_method_19_code
def yX0_x86Target : MethodName := ⟨RX0, "x86Target", "(II)I"⟩
abbrev cX0_isSignByte : ByteArray := prog_2_method_20_code
def yX0_isSignByte : MethodName := ⟨RX0, "isSignByte", "(I)Z"⟩
def RX1 : String := "BranchFilters$Row"
def TX1 : u_T := fun k => match k with
  | 0 => ("BranchFilters$Row", "bytes", "[I", true)
  | _ => ("BranchFilters$Row", "size", "I", false)
def tyX1 : Nat → FieldType := fun k => match k with
  | 0 => .array .int
  | _ => .int
abbrev wsX10 : List Cond := u_ws RX1 TX1 2
theorem nmX1 : ∀ a, a < 2 → ∀ b, b < 2 → a ≠ b → (TX1 a).2.1 ≠ (TX1 b).2.1 := by decide +kernel
theorem tyX1_ok : ∀ k, k < 2 → parseFieldDescriptor (TX1 k).2.2.1 = some (tyX1 k) := by decide +kernel
abbrev cX1_init : ByteArray := prog_3_method_1_code
def yX1_init : MethodName := ⟨RX1, "<init>", "(I)V"⟩
abbrev cX1_size : ByteArray := prog_3_method_2_code
def yX1_size : MethodName := ⟨RX1, "size", "()I"⟩
abbrev cX1_at : ByteArray := prog_3_method_3_code
def yX1_at : MethodName := ⟨RX1, "at", "(I)I"⟩
abbrev cX1_set : ByteArray := prog_3_method_4_code
def yX1_set : MethodName := ⟨RX1, "set", "(II)V"⟩
abbrev cX1_add : ByteArray := prog_3_method_5_code
def yX1_add : MethodName := ⟨RX1, "add", "(I)V"⟩
abbrev cX1_clear : ByteArray := prog_3_method_6_code
def yX1_clear : MethodName := ⟨RX1, "clear", "()V"⟩
abbrev cX1_lowestFirst : ByteArray := prog_3_method_7_code
def yX1_lowestFirst : MethodName := ⟨RX1, "lowestFirst", "(I)I"⟩
abbrev cX1_setLowestFirst : ByteArray := prog_3_method_8_code
def yX1_setLowestFirst : MethodName := ⟨RX1, "setLowestFirst", "(II)V"⟩
abbrev cX1_highestFirst : ByteArray := prog_3_method_9_code
def yX1_highestFirst : MethodName := ⟨RX1, "highestFirst", "(I)I"⟩
abbrev cX1_setHighestFirst : ByteArray := prog_3_method_10_code
def yX1_setHighestFirst : MethodName := ⟨RX1, "setHighestFirst", "(II)V"⟩
abbrev cX1_moveTo : ByteArray := prog_3_method_11_code
def yX1_moveTo : MethodName := ⟨RX1, "moveTo", "(LBranchFilters$Row;I)V"⟩
def RX2 : String := "BranchFilters"
def TX2 : u_T := fun k => match k with
  | 0 => ("BranchFilters", "chain", "[LBranchFilters$Filter;", true)
  | 1 => ("BranchFilters", "moving", "LBranchFilters$Row;", true)
  | 2 => ("BranchFilters", "result", "LBranchFilters$Row;", true)
  | 3 => ("BranchFilters", "start", "I", false)
  | 4 => ("BranchFilters", "encoding", "Z", false)
  | 5 => ("BranchFilters", "finished", "Z", false)
  | _ => ("BranchFilters", "came", "I", false)
def tyX2 : Nat → FieldType := fun k => match k with
  | 0 => .array (.object "BranchFilters$Filter")
  | 1 => .object "BranchFilters$Row"
  | 2 => .object "BranchFilters$Row"
  | 3 => .int
  | 4 => .boolean
  | 5 => .boolean
  | _ => .int
abbrev wsX20 : List Cond := u_ws RX2 TX2 7
theorem nmX2 : ∀ a, a < 7 → ∀ b, b < 7 → a ≠ b → (TX2 a).2.1 ≠ (TX2 b).2.1 := by decide +kernel
theorem tyX2_ok : ∀ k, k < 7 → parseFieldDescriptor (TX2 k).2.2.1 = some (tyX2 k) := by decide +kernel
abbrev cX2_init : ByteArray := prog_1_method_1_code
def yX2_init : MethodName := ⟨RX2, "<init>", "()V"⟩
abbrev cX2_filter : ByteArray := prog_1_method_2_code
def yX2_filter : MethodName := ⟨RX2, "filter", "(III)V"⟩
abbrev cX2_begin : ByteArray := prog_1_method_3_code
def yX2_begin : MethodName := ⟨RX2, "begin", "(IZ)V"⟩
abbrev cX2_feed : ByteArray := prog_1_method_4_code
def yX2_feed : MethodName := ⟨RX2, "feed", "(IIIII)I"⟩
abbrev cX2_finish : ByteArray := prog_1_method_5_code
def yX2_finish : MethodName := ⟨RX2, "finish", "()I"⟩
abbrev cX2_output : ByteArray := prog_1_method_6_code
def yX2_output : MethodName := ⟨RX2, "output", "(I)I"⟩
abbrev cX2_count : ByteArray := prog_1_method_7_code
def yX2_count : MethodName := ⟨RX2, "count", "(II)I"⟩
abbrev cX2_word : ByteArray := prog_1_method_8_code
def yX2_word : MethodName := ⟨RX2, "word", "(I)I"⟩
abbrev cX2_beginAnew : ByteArray := prog_1_method_9_code
def yX2_beginAnew : MethodName := ⟨RX2, "beginAnew", "()V"⟩
abbrev cX2_sendThroughChain : ByteArray := prog_1_method_10_code
def yX2_sendThroughChain : MethodName := ⟨RX2, "sendThroughChain", "(Z)V"⟩
def RX3 : String := "BranchFiltersModel"
def TX3 : u_T := fun k => match k with
  | 0 => ("BranchFiltersModel", "fault", "I", false)
  | 1 => ("BranchFiltersModel", "kind", "[I", true)
  | 2 => ("BranchFiltersModel", "distance", "[I", true)
  | 3 => ("BranchFiltersModel", "start", "I", false)
  | 4 => ("BranchFiltersModel", "encoding", "Z", false)
  | 5 => ("BranchFiltersModel", "came", "I", false)
  | 6 => ("BranchFiltersModel", "isFinished", "Z", false)
  | 7 => ("BranchFiltersModel", "held", "[I", true)
  | 8 => ("BranchFiltersModel", "heldMany", "[I", true)
  | 9 => ("BranchFiltersModel", "past", "[I", true)
  | 10 => ("BranchFiltersModel", "given", "[I", true)
  | 11 => ("BranchFiltersModel", "put", "[I", true)
  | 12 => ("BranchFiltersModel", "mask", "[I", true)
  | 13 => ("BranchFiltersModel", "last", "[I", true)
  | 14 => ("BranchFiltersModel", "in", "[I", true)
  | 15 => ("BranchFiltersModel", "inMany", "I", false)
  | 16 => ("BranchFiltersModel", "next", "[I", true)
  | 17 => ("BranchFiltersModel", "nextMany", "I", false)
  | 18 => ("BranchFiltersModel", "out", "[I", true)
  | _ => ("BranchFiltersModel", "outMany", "I", false)
def tyX3 : Nat → FieldType := fun k => match k with
  | 0 => .int
  | 1 => .array .int
  | 2 => .array .int
  | 3 => .int
  | 4 => .boolean
  | 5 => .int
  | 6 => .boolean
  | 7 => .array .int
  | 8 => .array .int
  | 9 => .array .int
  | 10 => .array .int
  | 11 => .array .int
  | 12 => .array .int
  | 13 => .array .int
  | 14 => .array .int
  | 15 => .int
  | 16 => .array .int
  | 17 => .int
  | 18 => .array .int
  | _ => .int
abbrev wsX30 : List Cond := u_ws RX3 TX3 20
theorem nmX3 : ∀ a, a < 20 → ∀ b, b < 20 → a ≠ b → (TX3 a).2.1 ≠ (TX3 b).2.1 := by decide +kernel
theorem tyX3_ok : ∀ k, k < 20 → parseFieldDescriptor (TX3 k).2.2.1 = some (tyX3 k) := by decide +kernel
abbrev cX3_init : ByteArray := prog_5_method_1_code
def yX3_init : MethodName := ⟨RX3, "<init>", "()V"⟩
abbrev cX3_thrown : ByteArray := prog_5_method_2_code
def yX3_thrown : MethodName := ⟨RX3, "thrown", "()I"⟩
abbrev cX3_refused : ByteArray := prog_5_method_3_code
def yX3_refused : MethodName := ⟨RX3, "refused", "(I)Z"⟩
abbrev cX3_isIn : ByteArray := prog_5_method_4_code
def yX3_isIn : MethodName := ⟨RX3, "isIn", "(III)Z"⟩
abbrev cX3_anew : ByteArray := prog_5_method_5_code
def yX3_anew : MethodName := ⟨RX3, "anew", "()V"⟩
abbrev cX3_filter : ByteArray := prog_5_method_6_code
def yX3_filter : MethodName := ⟨RX3, "filter", "(III)V"⟩
abbrev cX3_begin : ByteArray := prog_5_method_7_code
def yX3_begin : MethodName := ⟨RX3, "begin", "(IZ)V"⟩
abbrev cX3_at : ByteArray := prog_5_method_8_code
def yX3_at : MethodName := ⟨RX3, "at", "(II)I"⟩
abbrev cX3_change : ByteArray := prog_5_method_9_code
def yX3_change : MethodName := ⟨RX3, "change", "(III)V"⟩
abbrev cX3_high : ByteArray := prog_5_method_10_code
def yX3_high : MethodName := ⟨RX3, "high", "(II)I"⟩
abbrev cX3_low : ByteArray := prog_5_method_11_code
def yX3_low : MethodName := ⟨RX3, "low", "(II)I"⟩
abbrev cX3_setHigh : ByteArray := prog_5_method_12_code
def yX3_setHigh : MethodName := ⟨RX3, "setHigh", "(III)V"⟩
abbrev cX3_setLow : ByteArray := prog_5_method_13_code
def yX3_setLow : MethodName := ⟨RX3, "setLow", "(III)V"⟩
abbrev cX3_place : ByteArray := prog_5_method_14_code
def yX3_place : MethodName := ⟨RX3, "place", "(I)I"⟩
abbrev cX3_moved : ByteArray := prog_5_method_15_code
def yX3_moved : MethodName := ⟨RX3, "moved", "(II)I"⟩
abbrev cX3_give : ByteArray := prog_5_method_16_code
def yX3_give : MethodName := ⟨RX3, "give", "(II)V"⟩
abbrev cX3_needs : ByteArray := prog_5_method_17_code
def yX3_needs : MethodName := ⟨RX3, "needs", "(I)I"⟩
abbrev cX3_delta : ByteArray := prog_5_method_18_code
def yX3_delta : MethodName := ⟨RX3, "delta", "(I)V"⟩
abbrev cX3_arm : ByteArray := prog_5_method_19_code
def yX3_arm : MethodName := ⟨RX3, "arm", "(I)V"⟩
abbrev cX3_thumb : ByteArray := prog_5_method_20_code
def yX3_thumb : MethodName := ⟨RX3, "thumb", "(I)V"⟩
abbrev cX3_power : ByteArray := prog_5_method_21_code
def yX3_power : MethodName := ⟨RX3, "power", "(I)V"⟩
abbrev cX3_sparc : ByteArray := prog_5_method_22_code
def yX3_sparc : MethodName := ⟨RX3, "sparc", "(I)V"⟩
abbrev cX3_risc : ByteArray := prog_5_method_23_code
def yX3_risc : MethodName := ⟨RX3, "risc", "(I)V"⟩
abbrev cX3_isEnd : ByteArray := prog_5_method_24_code
def yX3_isEnd : MethodName := ⟨RX3, "isEnd", "(I)Z"⟩
abbrev cX3_jump : ByteArray := prog_5_method_25_code
def yX3_jump : MethodName := ⟨RX3, "jump", "(I)V"⟩
abbrev cX3_work : ByteArray := prog_5_method_26_code
def yX3_work : MethodName := ⟨RX3, "work", "(I)V"⟩
abbrev cX3_goThrough : ByteArray := prog_5_method_27_code
def yX3_goThrough : MethodName := ⟨RX3, "goThrough", "(Z)V"⟩
abbrev cX3_feed : ByteArray := prog_5_method_28_code
def yX3_feed : MethodName := ⟨RX3, "feed", "(IIIII)I"⟩
abbrev cX3_finish : ByteArray := prog_5_method_29_code
def yX3_finish : MethodName := ⟨RX3, "finish", "()I"⟩
abbrev cX3_output : ByteArray := prog_5_method_30_code
def yX3_output : MethodName := ⟨RX3, "output", "(I)I"⟩
abbrev cX3_count : ByteArray := prog_5_method_31_code
def yX3_count : MethodName := ⟨RX3, "count", "(II)I"⟩
abbrev cX3_word : ByteArray := prog_5_method_32_code
def yX3_word : MethodName := ⟨RX3, "word", "(I)I"⟩
def RJ0 : String := "java/lang/String"
def TJ0 : u_T := fun k => match k with
  | _ => ("", "", "", false)
def tyJ0 : Nat → FieldType := fun k => match k with
  | _ => .int
abbrev wsJ00 : List Cond := u_ws RJ0 TJ0 0
theorem nmJ0 : ∀ a, a < 0 → ∀ b, b < 0 → a ≠ b → (TJ0 a).2.1 ≠ (TJ0 b).2.1 := by decide +kernel
theorem tyJ0_ok : ∀ k, k < 0 → parseFieldDescriptor (TJ0 k).2.2.1 = some (tyJ0 k) := by decide +kernel
def RJ10 : String := "java/lang/System"
def TJ10 : u_T := fun k => match k with
  | _ => ("", "", "", false)
def tyJ10 : Nat → FieldType := fun k => match k with
  | _ => .int
abbrev wsJ100 : List Cond := u_ws RJ10 TJ10 0
theorem nmJ10 : ∀ a, a < 0 → ∀ b, b < 0 → a ≠ b → (TJ10 a).2.1 ≠ (TJ10 b).2.1 := by decide +kernel
theorem tyJ10_ok : ∀ k, k < 0 → parseFieldDescriptor (TJ10 k).2.2.1 = some (tyJ10 k) := by decide +kernel
def RL : String := "BranchFiltersLaw"
abbrev cL_filter : ByteArray := method_3_code
def yL_filter : MethodName := ⟨RL, "filter", "(LBranchFilters;III)I"⟩
abbrev cL_feed : ByteArray := method_4_code
def yL_feed : MethodName := ⟨RL, "feed", "(LBranchFilters;IIIII[J)I"⟩
abbrev cL_finish : ByteArray := method_5_code
def yL_finish : MethodName := ⟨RL, "finish", "(LBranchFilters;[J)I"⟩
abbrev cL_count : ByteArray := method_6_code
def yL_count : MethodName := ⟨RL, "count", "(LBranchFilters;II[J)I"⟩
abbrev cL_word : ByteArray := method_7_code
def yL_word : MethodName := ⟨RL, "word", "(LBranchFilters;I[J)I"⟩
abbrev cL_law : ByteArray := code
def yL_law : MethodName := ⟨RL, "law", "([I)Z"⟩
def wsX1_init : List Cond := .code yX1_init cX1_init 2 none :: ([.methodLink RX1 1 objectInit, .instanceMethod objectInit, .code objectInit ⟨#[0xb1]⟩ 1 none, .arrayClass .int, .fieldLink RX1 7 "BranchFilters$Row" "bytes" "[I"] ++ wsX10)
def wsX1_clear : List Cond := .code yX1_clear cX1_clear 1 none :: ([.fieldLink RX1 13 "BranchFilters$Row" "size" "I"] ++ wsX10)
def wsX0_restart : List Cond := .code yX0_restart cX0_restart 4 none :: ([.fieldLink RX0 14 "BranchFilters$Filter" "held" "LBranchFilters$Row;", .fieldLink RX0 20 "BranchFilters$Filter" "past" "[I", .fieldLink RX0 38 "BranchFilters$Filter" "encoding" "Z", .fieldLink RX0 42 "BranchFilters$Filter" "place" "I", .fieldLink RX0 45 "BranchFilters$Filter" "given" "I", .fieldLink RX0 48 "BranchFilters$Filter" "replaced" "I", .fieldLink RX0 51 "BranchFilters$Filter" "mask" "I", .fieldLink RX0 54 "BranchFilters$Filter" "last" "I", .methodLink RX0 35 yX1_clear, .instanceMethod yX1_clear, .selects RX1 yX1_clear yX1_clear, .initialized RX1, .code yX1_clear cX1_clear 1 none, .fieldLink RX1 13 "BranchFilters$Row" "size" "I"] ++ wsX00 ++ wsX10)
def wsX0_init_r1 : List Cond := [Cond.methodLink RX0 3 objectInit, Cond.instanceMethod objectInit, Cond.code objectInit ⟨#[0xb1]⟩ 1 none, Cond.classLink RX0 9 RX1, Cond.instantiable RX1 2, Cond.initialized RX1, Cond.fieldLink RX0 14 "BranchFilters$Filter" "held" "LBranchFilters$Row;", Cond.arrayClass .int, Cond.fieldLink RX0 20 "BranchFilters$Filter" "past" "[I", Cond.fieldLink RX0 24 "BranchFilters$Filter" "distance" "I", Cond.methodLink RX0 11 yX1_init, Cond.instanceMethod yX1_init, Cond.code yX1_init cX1_init 2 none, Cond.methodLink RX1 1 objectInit, Cond.fieldLink RX1 7 "BranchFilters$Row" "bytes" "[I", Cond.methodLink RX0 28 yX0_restart, Cond.instanceMethod yX0_restart, Cond.selects RX0 yX0_restart yX0_restart, Cond.initialized RX0, Cond.code yX0_restart cX0_restart 4 none, Cond.fieldLink RX0 38 "BranchFilters$Filter" "encoding" "Z", Cond.fieldLink RX0 42 "BranchFilters$Filter" "place" "I", Cond.fieldLink RX0 45 "BranchFilters$Filter" "given" "I", Cond.fieldLink RX0 48 "BranchFilters$Filter" "replaced" "I"]
def wsX0_init_r2 : List Cond := [Cond.fieldLink RX0 51 "BranchFilters$Filter" "mask" "I", Cond.fieldLink RX0 54 "BranchFilters$Filter" "last" "I", Cond.methodLink RX0 35 yX1_clear, Cond.instanceMethod yX1_clear, Cond.selects RX1 yX1_clear yX1_clear, Cond.code yX1_clear cX1_clear 1 none, Cond.fieldLink RX1 13 "BranchFilters$Row" "size" "I"]
def wsX0_init : List Cond := .code yX0_init cX0_init 1 none :: ((wsX0_init_r1 ++ wsX0_init_r2) ++ wsX10 ++ wsX00)
def wsX0_become : List Cond := .code yX0_become cX0_become 3 none :: ([.fieldLink RX0 32 "BranchFilters$Filter" "kind" "I", .fieldLink RX0 24 "BranchFilters$Filter" "distance" "I"] ++ wsX00)
def wsX1_size : List Cond := .code yX1_size cX1_size 1 (some .int) :: ([.fieldLink RX1 13 "BranchFilters$Row" "size" "I"] ++ wsX10)
def wsX1_moveTo : List Cond := .code yX1_moveTo cX1_moveTo 3 none :: ([.fieldLink RX1 7 "BranchFilters$Row" "bytes" "[I", .fieldLink RX1 13 "BranchFilters$Row" "size" "I", .methodLink RX1 17 arraycopyName, .native arraycopyName, .static arraycopyName, .initialized "java/lang/System"] ++ wsX10)
def wsX1_at : List Cond := .code yX1_at cX1_at 2 (some .int) :: ([.fieldLink RX1 7 "BranchFilters$Row" "bytes" "[I"] ++ wsX10)
def wsX0_moved : List Cond := .code yX0_moved cX0_moved 3 (some .int) :: ([.fieldLink RX0 38 "BranchFilters$Filter" "encoding" "Z"] ++ wsX00)
def wsX1_set : List Cond := .code yX1_set cX1_set 3 none :: ([.fieldLink RX1 7 "BranchFilters$Row" "bytes" "[I"] ++ wsX10)
def wsX0_stepDelta : List Cond := .code yX0_stepDelta cX0_stepDelta 4 (some .int) :: ([.fieldLink RX0 42 "BranchFilters$Filter" "place" "I", .fieldLink RX0 20 "BranchFilters$Filter" "past" "[I", .fieldLink RX0 24 "BranchFilters$Filter" "distance" "I", .fieldLink RX0 14 "BranchFilters$Filter" "held" "LBranchFilters$Row;", .fieldLink RX0 65 "BranchFilters$Filter" "here" "I", .fieldLink RX0 38 "BranchFilters$Filter" "encoding" "Z", .methodLink RX0 95 yX1_at, .instanceMethod yX1_at, .selects RX1 yX1_at yX1_at, .initialized RX1, .code yX1_at cX1_at 2 (some .int), .fieldLink RX1 7 "BranchFilters$Row" "bytes" "[I", .methodLink RX0 99 yX0_moved, .instanceMethod yX0_moved, .selects RX0 yX0_moved yX0_moved, .initialized RX0, .code yX0_moved cX0_moved 3 (some .int), .methodLink RX0 103 yX1_set, .instanceMethod yX1_set, .selects RX1 yX1_set yX1_set, .code yX1_set cX1_set 3 none] ++ wsX00 ++ wsX10)
def wsX0_ageMask : List Cond := .code yX0_ageMask cX0_ageMask 3 none :: ([.fieldLink RX0 42 "BranchFilters$Filter" "place" "I", .fieldLink RX0 54 "BranchFilters$Filter" "last" "I", .fieldLink RX0 51 "BranchFilters$Filter" "mask" "I"] ++ wsX00)
def wsX0_isSignByte : List Cond := .code yX0_isSignByte cX0_isSignByte 1 (some .boolean) :: ([])
def wsX0_maskAllows : List Cond := .code yX0_maskAllows cX0_maskAllows 3 (some .boolean) :: ([.fieldLink RX0 51 "BranchFilters$Filter" "mask" "I"] ++ wsX00)
def wsX1_lowestFirst : List Cond := .code yX1_lowestFirst cX1_lowestFirst 2 (some .int) :: ([.fieldLink RX1 7 "BranchFilters$Row" "bytes" "[I"] ++ wsX10)
def wsX0_x86Target : List Cond := .code yX0_x86Target cX0_x86Target 9 (some .int) :: ([.fieldLink RX0 51 "BranchFilters$Filter" "mask" "I", .methodLink RX0 99 yX0_moved, .instanceMethod yX0_moved, .selects RX0 yX0_moved yX0_moved, .initialized RX0, .code yX0_moved cX0_moved 3 (some .int), .fieldLink RX0 38 "BranchFilters$Filter" "encoding" "Z", .methodLink RX0 138 yX0_isSignByte, .static yX0_isSignByte, .code yX0_isSignByte cX0_isSignByte 1 (some .boolean)] ++ wsX00)
def wsX1_setLowestFirst : List Cond := .code yX1_setLowestFirst cX1_setLowestFirst 3 none :: ([.fieldLink RX1 7 "BranchFilters$Row" "bytes" "[I"] ++ wsX10)
def wsX0_stepX86_r1 : List Cond := [Cond.fieldLink RX0 14 "BranchFilters$Filter" "held" "LBranchFilters$Row;", Cond.fieldLink RX0 65 "BranchFilters$Filter" "here" "I", Cond.fieldLink RX0 42 "BranchFilters$Filter" "place" "I", Cond.fieldLink RX0 51 "BranchFilters$Filter" "mask" "I", Cond.fieldLink RX0 48 "BranchFilters$Filter" "replaced" "I", Cond.methodLink RX0 95 yX1_at, Cond.instanceMethod yX1_at, Cond.selects RX1 yX1_at yX1_at, Cond.initialized RX1, Cond.code yX1_at cX1_at 2 (some .int), Cond.fieldLink RX1 7 "BranchFilters$Row" "bytes" "[I", Cond.methodLink RX0 135 yX0_ageMask, Cond.instanceMethod yX0_ageMask, Cond.selects RX0 yX0_ageMask yX0_ageMask, Cond.initialized RX0, Cond.code yX0_ageMask cX0_ageMask 3 none, Cond.fieldLink RX0 54 "BranchFilters$Filter" "last" "I", Cond.methodLink RX0 138 yX0_isSignByte, Cond.static yX0_isSignByte, Cond.code yX0_isSignByte cX0_isSignByte 1 (some .boolean), Cond.methodLink RX0 142 yX0_maskAllows, Cond.instanceMethod yX0_maskAllows, Cond.selects RX0 yX0_maskAllows yX0_maskAllows, Cond.code yX0_maskAllows cX0_maskAllows 3 (some .boolean)]
def wsX0_stepX86_r2 : List Cond := [Cond.methodLink RX0 107 yX1_lowestFirst, Cond.instanceMethod yX1_lowestFirst, Cond.selects RX1 yX1_lowestFirst yX1_lowestFirst, Cond.code yX1_lowestFirst cX1_lowestFirst 2 (some .int), Cond.methodLink RX0 146 yX0_x86Target, Cond.instanceMethod yX0_x86Target, Cond.selects RX0 yX0_x86Target yX0_x86Target, Cond.code yX0_x86Target cX0_x86Target 9 (some .int), Cond.methodLink RX0 99 yX0_moved, Cond.instanceMethod yX0_moved, Cond.selects RX0 yX0_moved yX0_moved, Cond.code yX0_moved cX0_moved 3 (some .int), Cond.fieldLink RX0 38 "BranchFilters$Filter" "encoding" "Z", Cond.methodLink RX0 112 yX1_setLowestFirst, Cond.instanceMethod yX1_setLowestFirst, Cond.selects RX1 yX1_setLowestFirst yX1_setLowestFirst, Cond.code yX1_setLowestFirst cX1_setLowestFirst 3 none]
def wsX0_stepX86 : List Cond := .code yX0_stepX86 cX0_stepX86 4 (some .int) :: ((wsX0_stepX86_r1 ++ wsX0_stepX86_r2) ++ wsX00 ++ wsX10)
def wsX0_stepArm : List Cond := .code yX0_stepArm cX0_stepArm 4 (some .int) :: ([.fieldLink RX0 14 "BranchFilters$Filter" "held" "LBranchFilters$Row;", .fieldLink RX0 65 "BranchFilters$Filter" "here" "I", .constant RX0 110 (16777215), .fieldLink RX0 42 "BranchFilters$Filter" "place" "I", .constant RX0 111 (-352321536), .fieldLink RX0 48 "BranchFilters$Filter" "replaced" "I", .methodLink RX0 107 yX1_lowestFirst, .instanceMethod yX1_lowestFirst, .selects RX1 yX1_lowestFirst yX1_lowestFirst, .initialized RX1, .code yX1_lowestFirst cX1_lowestFirst 2 (some .int), .fieldLink RX1 7 "BranchFilters$Row" "bytes" "[I", .methodLink RX0 99 yX0_moved, .instanceMethod yX0_moved, .selects RX0 yX0_moved yX0_moved, .initialized RX0, .code yX0_moved cX0_moved 3 (some .int), .fieldLink RX0 38 "BranchFilters$Filter" "encoding" "Z", .methodLink RX0 112 yX1_setLowestFirst, .instanceMethod yX1_setLowestFirst, .selects RX1 yX1_setLowestFirst yX1_setLowestFirst, .code yX1_setLowestFirst cX1_setLowestFirst 3 none] ++ wsX00 ++ wsX10)
def wsX0_stepThumb : List Cond := .code yX0_stepThumb cX0_stepThumb 7 (some .int) :: ([.fieldLink RX0 14 "BranchFilters$Filter" "held" "LBranchFilters$Row;", .fieldLink RX0 65 "BranchFilters$Filter" "here" "I", .fieldLink RX0 42 "BranchFilters$Filter" "place" "I", .fieldLink RX0 48 "BranchFilters$Filter" "replaced" "I", .methodLink RX0 95 yX1_at, .instanceMethod yX1_at, .selects RX1 yX1_at yX1_at, .initialized RX1, .code yX1_at cX1_at 2 (some .int), .fieldLink RX1 7 "BranchFilters$Row" "bytes" "[I", .methodLink RX0 99 yX0_moved, .instanceMethod yX0_moved, .selects RX0 yX0_moved yX0_moved, .initialized RX0, .code yX0_moved cX0_moved 3 (some .int), .fieldLink RX0 38 "BranchFilters$Filter" "encoding" "Z", .methodLink RX0 103 yX1_set, .instanceMethod yX1_set, .selects RX1 yX1_set yX1_set, .code yX1_set cX1_set 3 none] ++ wsX00 ++ wsX10)
def wsX1_highestFirst : List Cond := .code yX1_highestFirst cX1_highestFirst 2 (some .int) :: ([.fieldLink RX1 7 "BranchFilters$Row" "bytes" "[I"] ++ wsX10)
def wsX1_setHighestFirst : List Cond := .code yX1_setHighestFirst cX1_setHighestFirst 3 none :: ([.fieldLink RX1 7 "BranchFilters$Row" "bytes" "[I"] ++ wsX10)
def wsX0_stepPower : List Cond := .code yX0_stepPower cX0_stepPower 3 (some .int) :: ([.fieldLink RX0 14 "BranchFilters$Filter" "held" "LBranchFilters$Row;", .fieldLink RX0 65 "BranchFilters$Filter" "here" "I", .constant RX0 118 (67108860), .fieldLink RX0 42 "BranchFilters$Filter" "place" "I", .constant RX0 119 (-67108861), .fieldLink RX0 48 "BranchFilters$Filter" "replaced" "I", .methodLink RX0 115 yX1_highestFirst, .instanceMethod yX1_highestFirst, .selects RX1 yX1_highestFirst yX1_highestFirst, .initialized RX1, .code yX1_highestFirst cX1_highestFirst 2 (some .int), .fieldLink RX1 7 "BranchFilters$Row" "bytes" "[I", .methodLink RX0 99 yX0_moved, .instanceMethod yX0_moved, .selects RX0 yX0_moved yX0_moved, .initialized RX0, .code yX0_moved cX0_moved 3 (some .int), .fieldLink RX0 38 "BranchFilters$Filter" "encoding" "Z", .methodLink RX0 120 yX1_setHighestFirst, .instanceMethod yX1_setHighestFirst, .selects RX1 yX1_setHighestFirst yX1_setHighestFirst, .code yX1_setHighestFirst cX1_setHighestFirst 3 none] ++ wsX00 ++ wsX10)
def wsX0_stepSparc : List Cond := .code yX0_stepSparc cX0_stepSparc 5 (some .int) :: ([.fieldLink RX0 14 "BranchFilters$Filter" "held" "LBranchFilters$Row;", .fieldLink RX0 65 "BranchFilters$Filter" "here" "I", .fieldLink RX0 42 "BranchFilters$Filter" "place" "I", .constant RX0 123 (1069547520), .constant RX0 124 (1073741824), .constant RX0 125 (4194303), .fieldLink RX0 48 "BranchFilters$Filter" "replaced" "I", .methodLink RX0 115 yX1_highestFirst, .instanceMethod yX1_highestFirst, .selects RX1 yX1_highestFirst yX1_highestFirst, .initialized RX1, .code yX1_highestFirst cX1_highestFirst 2 (some .int), .fieldLink RX1 7 "BranchFilters$Row" "bytes" "[I", .methodLink RX0 99 yX0_moved, .instanceMethod yX0_moved, .selects RX0 yX0_moved yX0_moved, .initialized RX0, .code yX0_moved cX0_moved 3 (some .int), .fieldLink RX0 38 "BranchFilters$Filter" "encoding" "Z", .methodLink RX0 120 yX1_setHighestFirst, .instanceMethod yX1_setHighestFirst, .selects RX1 yX1_setHighestFirst yX1_setHighestFirst, .code yX1_setHighestFirst cX1_setHighestFirst 3 none] ++ wsX00 ++ wsX10)
def wsX0_replaceRiscJump : List Cond := .code yX0_replaceRiscJump cX0_replaceRiscJump 5 none :: ([.constant RX0 133 (1044480), .fieldLink RX0 42 "BranchFilters$Filter" "place" "I", .fieldLink RX0 14 "BranchFilters$Filter" "held" "LBranchFilters$Row;", .fieldLink RX0 65 "BranchFilters$Filter" "here" "I", .fieldLink RX0 48 "BranchFilters$Filter" "replaced" "I", .methodLink RX0 99 yX0_moved, .instanceMethod yX0_moved, .selects RX0 yX0_moved yX0_moved, .initialized RX0, .code yX0_moved cX0_moved 3 (some .int), .fieldLink RX0 38 "BranchFilters$Filter" "encoding" "Z", .methodLink RX0 112 yX1_setLowestFirst, .instanceMethod yX1_setLowestFirst, .selects RX1 yX1_setLowestFirst yX1_setLowestFirst, .initialized RX1, .code yX1_setLowestFirst cX1_setLowestFirst 3 none, .fieldLink RX1 7 "BranchFilters$Row" "bytes" "[I"] ++ wsX00 ++ wsX10)
def wsX0_replaceRiscPair : List Cond := .code yX0_replaceRiscPair cX0_replaceRiscPair 7 none :: ([.fieldLink RX0 42 "BranchFilters$Filter" "place" "I", .fieldLink RX0 14 "BranchFilters$Filter" "held" "LBranchFilters$Row;", .fieldLink RX0 65 "BranchFilters$Filter" "here" "I", .constant RX0 134 (1048575), .fieldLink RX0 48 "BranchFilters$Filter" "replaced" "I", .methodLink RX0 99 yX0_moved, .instanceMethod yX0_moved, .selects RX0 yX0_moved yX0_moved, .initialized RX0, .code yX0_moved cX0_moved 3 (some .int), .fieldLink RX0 38 "BranchFilters$Filter" "encoding" "Z", .methodLink RX0 112 yX1_setLowestFirst, .instanceMethod yX1_setLowestFirst, .selects RX1 yX1_setLowestFirst yX1_setLowestFirst, .initialized RX1, .code yX1_setLowestFirst cX1_setLowestFirst 3 none, .fieldLink RX1 7 "BranchFilters$Row" "bytes" "[I"] ++ wsX00 ++ wsX10)
def wsX0_stepRisc_r1 : List Cond := [Cond.fieldLink RX0 14 "BranchFilters$Filter" "held" "LBranchFilters$Row;", Cond.fieldLink RX0 65 "BranchFilters$Filter" "here" "I", Cond.methodLink RX0 107 yX1_lowestFirst, Cond.instanceMethod yX1_lowestFirst, Cond.selects RX1 yX1_lowestFirst yX1_lowestFirst, Cond.initialized RX1, Cond.code yX1_lowestFirst cX1_lowestFirst 2 (some .int), Cond.fieldLink RX1 7 "BranchFilters$Row" "bytes" "[I", Cond.methodLink RX0 126 yX0_replaceRiscJump, Cond.instanceMethod yX0_replaceRiscJump, Cond.selects RX0 yX0_replaceRiscJump yX0_replaceRiscJump, Cond.initialized RX0, Cond.code yX0_replaceRiscJump cX0_replaceRiscJump 5 none, Cond.constant RX0 133 (1044480), Cond.fieldLink RX0 42 "BranchFilters$Filter" "place" "I", Cond.fieldLink RX0 48 "BranchFilters$Filter" "replaced" "I", Cond.methodLink RX0 99 yX0_moved, Cond.instanceMethod yX0_moved, Cond.selects RX0 yX0_moved yX0_moved, Cond.code yX0_moved cX0_moved 3 (some .int), Cond.fieldLink RX0 38 "BranchFilters$Filter" "encoding" "Z", Cond.methodLink RX0 112 yX1_setLowestFirst, Cond.instanceMethod yX1_setLowestFirst, Cond.selects RX1 yX1_setLowestFirst yX1_setLowestFirst]
def wsX0_stepRisc_r2 : List Cond := [Cond.code yX1_setLowestFirst cX1_setLowestFirst 3 none, Cond.methodLink RX0 129 yX0_replaceRiscPair, Cond.instanceMethod yX0_replaceRiscPair, Cond.selects RX0 yX0_replaceRiscPair yX0_replaceRiscPair, Cond.code yX0_replaceRiscPair cX0_replaceRiscPair 7 none, Cond.constant RX0 134 (1048575)]
def wsX0_stepRisc : List Cond := .code yX0_stepRisc cX0_stepRisc 4 (some .int) :: ((wsX0_stepRisc_r1 ++ wsX0_stepRisc_r2) ++ wsX00 ++ wsX10)
def wsX0_step_r1 : List Cond := [Cond.fieldLink RX0 32 "BranchFilters$Filter" "kind" "I", Cond.methodLink RX0 74 yX0_stepDelta, Cond.instanceMethod yX0_stepDelta, Cond.selects RX0 yX0_stepDelta yX0_stepDelta, Cond.initialized RX0, Cond.code yX0_stepDelta cX0_stepDelta 4 (some .int), Cond.fieldLink RX0 42 "BranchFilters$Filter" "place" "I", Cond.fieldLink RX0 20 "BranchFilters$Filter" "past" "[I", Cond.fieldLink RX0 24 "BranchFilters$Filter" "distance" "I", Cond.fieldLink RX0 14 "BranchFilters$Filter" "held" "LBranchFilters$Row;", Cond.fieldLink RX0 65 "BranchFilters$Filter" "here" "I", Cond.fieldLink RX0 38 "BranchFilters$Filter" "encoding" "Z", Cond.methodLink RX0 95 yX1_at, Cond.instanceMethod yX1_at, Cond.selects RX1 yX1_at yX1_at, Cond.initialized RX1, Cond.code yX1_at cX1_at 2 (some .int), Cond.fieldLink RX1 7 "BranchFilters$Row" "bytes" "[I", Cond.methodLink RX0 99 yX0_moved, Cond.instanceMethod yX0_moved, Cond.selects RX0 yX0_moved yX0_moved, Cond.code yX0_moved cX0_moved 3 (some .int), Cond.methodLink RX0 103 yX1_set, Cond.instanceMethod yX1_set]
def wsX0_step_r2 : List Cond := [Cond.selects RX1 yX1_set yX1_set, Cond.code yX1_set cX1_set 3 none, Cond.methodLink RX0 77 yX0_stepX86, Cond.instanceMethod yX0_stepX86, Cond.selects RX0 yX0_stepX86 yX0_stepX86, Cond.code yX0_stepX86 cX0_stepX86 4 (some .int), Cond.fieldLink RX0 51 "BranchFilters$Filter" "mask" "I", Cond.fieldLink RX0 48 "BranchFilters$Filter" "replaced" "I", Cond.methodLink RX0 135 yX0_ageMask, Cond.instanceMethod yX0_ageMask, Cond.selects RX0 yX0_ageMask yX0_ageMask, Cond.code yX0_ageMask cX0_ageMask 3 none, Cond.fieldLink RX0 54 "BranchFilters$Filter" "last" "I", Cond.methodLink RX0 138 yX0_isSignByte, Cond.static yX0_isSignByte, Cond.code yX0_isSignByte cX0_isSignByte 1 (some .boolean), Cond.methodLink RX0 142 yX0_maskAllows, Cond.instanceMethod yX0_maskAllows, Cond.selects RX0 yX0_maskAllows yX0_maskAllows, Cond.code yX0_maskAllows cX0_maskAllows 3 (some .boolean), Cond.methodLink RX0 107 yX1_lowestFirst, Cond.instanceMethod yX1_lowestFirst, Cond.selects RX1 yX1_lowestFirst yX1_lowestFirst, Cond.code yX1_lowestFirst cX1_lowestFirst 2 (some .int)]
def wsX0_step_r3 : List Cond := [Cond.methodLink RX0 146 yX0_x86Target, Cond.instanceMethod yX0_x86Target, Cond.selects RX0 yX0_x86Target yX0_x86Target, Cond.code yX0_x86Target cX0_x86Target 9 (some .int), Cond.methodLink RX0 112 yX1_setLowestFirst, Cond.instanceMethod yX1_setLowestFirst, Cond.selects RX1 yX1_setLowestFirst yX1_setLowestFirst, Cond.code yX1_setLowestFirst cX1_setLowestFirst 3 none, Cond.methodLink RX0 80 yX0_stepArm, Cond.instanceMethod yX0_stepArm, Cond.selects RX0 yX0_stepArm yX0_stepArm, Cond.code yX0_stepArm cX0_stepArm 4 (some .int), Cond.constant RX0 110 (16777215), Cond.constant RX0 111 (-352321536), Cond.methodLink RX0 83 yX0_stepThumb, Cond.instanceMethod yX0_stepThumb, Cond.selects RX0 yX0_stepThumb yX0_stepThumb, Cond.code yX0_stepThumb cX0_stepThumb 7 (some .int), Cond.methodLink RX0 86 yX0_stepPower, Cond.instanceMethod yX0_stepPower, Cond.selects RX0 yX0_stepPower yX0_stepPower, Cond.code yX0_stepPower cX0_stepPower 3 (some .int), Cond.constant RX0 118 (67108860), Cond.constant RX0 119 (-67108861)]
def wsX0_step_r4 : List Cond := [Cond.methodLink RX0 115 yX1_highestFirst, Cond.instanceMethod yX1_highestFirst, Cond.selects RX1 yX1_highestFirst yX1_highestFirst, Cond.code yX1_highestFirst cX1_highestFirst 2 (some .int), Cond.methodLink RX0 120 yX1_setHighestFirst, Cond.instanceMethod yX1_setHighestFirst, Cond.selects RX1 yX1_setHighestFirst yX1_setHighestFirst, Cond.code yX1_setHighestFirst cX1_setHighestFirst 3 none, Cond.methodLink RX0 89 yX0_stepSparc, Cond.instanceMethod yX0_stepSparc, Cond.selects RX0 yX0_stepSparc yX0_stepSparc, Cond.code yX0_stepSparc cX0_stepSparc 5 (some .int), Cond.constant RX0 123 (1069547520), Cond.constant RX0 124 (1073741824), Cond.constant RX0 125 (4194303), Cond.methodLink RX0 92 yX0_stepRisc, Cond.instanceMethod yX0_stepRisc, Cond.selects RX0 yX0_stepRisc yX0_stepRisc, Cond.code yX0_stepRisc cX0_stepRisc 4 (some .int), Cond.methodLink RX0 126 yX0_replaceRiscJump, Cond.instanceMethod yX0_replaceRiscJump, Cond.selects RX0 yX0_replaceRiscJump yX0_replaceRiscJump, Cond.code yX0_replaceRiscJump cX0_replaceRiscJump 5 none, Cond.constant RX0 133 (1044480)]
def wsX0_step_r5 : List Cond := [Cond.methodLink RX0 129 yX0_replaceRiscPair, Cond.instanceMethod yX0_replaceRiscPair, Cond.selects RX0 yX0_replaceRiscPair yX0_replaceRiscPair, Cond.code yX0_replaceRiscPair cX0_replaceRiscPair 7 none, Cond.constant RX0 134 (1048575)]
def wsX0_step : List Cond := .code yX0_step cX0_step 1 (some .int) :: ((wsX0_step_r1 ++ (wsX0_step_r2 ++ (wsX0_step_r3 ++ (wsX0_step_r4 ++ wsX0_step_r5)))) ++ wsX00 ++ wsX10)
def wsX0_pass_r1 : List Cond := [Cond.fieldLink RX0 14 "BranchFilters$Filter" "held" "LBranchFilters$Row;", Cond.fieldLink RX0 65 "BranchFilters$Filter" "here" "I", Cond.fieldLink RX0 68 "BranchFilters$Filter" "NEEDED" "[I", Cond.fieldLink RX0 32 "BranchFilters$Filter" "kind" "I", Cond.fieldLink RX0 42 "BranchFilters$Filter" "place" "I", Cond.fieldLink RX0 45 "BranchFilters$Filter" "given" "I", Cond.methodLink RX0 57 yX1_size, Cond.instanceMethod yX1_size, Cond.selects RX1 yX1_size yX1_size, Cond.initialized RX1, Cond.code yX1_size cX1_size 1 (some .int), Cond.fieldLink RX1 13 "BranchFilters$Row" "size" "I", Cond.methodLink RX0 61 yX1_moveTo, Cond.instanceMethod yX1_moveTo, Cond.selects RX1 yX1_moveTo yX1_moveTo, Cond.code yX1_moveTo cX1_moveTo 3 none, Cond.fieldLink RX1 7 "BranchFilters$Row" "bytes" "[I", Cond.methodLink RX1 17 arraycopyName, Cond.native arraycopyName, Cond.static arraycopyName, Cond.initialized "java/lang/System", Cond.methodLink RX0 71 yX0_step, Cond.instanceMethod yX0_step, Cond.selects RX0 yX0_step yX0_step]
def wsX0_pass_r2 : List Cond := [Cond.initialized RX0, Cond.code yX0_step cX0_step 1 (some .int), Cond.methodLink RX0 74 yX0_stepDelta, Cond.instanceMethod yX0_stepDelta, Cond.selects RX0 yX0_stepDelta yX0_stepDelta, Cond.code yX0_stepDelta cX0_stepDelta 4 (some .int), Cond.fieldLink RX0 20 "BranchFilters$Filter" "past" "[I", Cond.fieldLink RX0 24 "BranchFilters$Filter" "distance" "I", Cond.fieldLink RX0 38 "BranchFilters$Filter" "encoding" "Z", Cond.methodLink RX0 95 yX1_at, Cond.instanceMethod yX1_at, Cond.selects RX1 yX1_at yX1_at, Cond.code yX1_at cX1_at 2 (some .int), Cond.methodLink RX0 99 yX0_moved, Cond.instanceMethod yX0_moved, Cond.selects RX0 yX0_moved yX0_moved, Cond.code yX0_moved cX0_moved 3 (some .int), Cond.methodLink RX0 103 yX1_set, Cond.instanceMethod yX1_set, Cond.selects RX1 yX1_set yX1_set, Cond.code yX1_set cX1_set 3 none, Cond.methodLink RX0 77 yX0_stepX86, Cond.instanceMethod yX0_stepX86, Cond.selects RX0 yX0_stepX86 yX0_stepX86]
def wsX0_pass_r3 : List Cond := [Cond.code yX0_stepX86 cX0_stepX86 4 (some .int), Cond.fieldLink RX0 51 "BranchFilters$Filter" "mask" "I", Cond.fieldLink RX0 48 "BranchFilters$Filter" "replaced" "I", Cond.methodLink RX0 135 yX0_ageMask, Cond.instanceMethod yX0_ageMask, Cond.selects RX0 yX0_ageMask yX0_ageMask, Cond.code yX0_ageMask cX0_ageMask 3 none, Cond.fieldLink RX0 54 "BranchFilters$Filter" "last" "I", Cond.methodLink RX0 138 yX0_isSignByte, Cond.static yX0_isSignByte, Cond.code yX0_isSignByte cX0_isSignByte 1 (some .boolean), Cond.methodLink RX0 142 yX0_maskAllows, Cond.instanceMethod yX0_maskAllows, Cond.selects RX0 yX0_maskAllows yX0_maskAllows, Cond.code yX0_maskAllows cX0_maskAllows 3 (some .boolean), Cond.methodLink RX0 107 yX1_lowestFirst, Cond.instanceMethod yX1_lowestFirst, Cond.selects RX1 yX1_lowestFirst yX1_lowestFirst, Cond.code yX1_lowestFirst cX1_lowestFirst 2 (some .int), Cond.methodLink RX0 146 yX0_x86Target, Cond.instanceMethod yX0_x86Target, Cond.selects RX0 yX0_x86Target yX0_x86Target, Cond.code yX0_x86Target cX0_x86Target 9 (some .int), Cond.methodLink RX0 112 yX1_setLowestFirst]
def wsX0_pass_r4 : List Cond := [Cond.instanceMethod yX1_setLowestFirst, Cond.selects RX1 yX1_setLowestFirst yX1_setLowestFirst, Cond.code yX1_setLowestFirst cX1_setLowestFirst 3 none, Cond.methodLink RX0 80 yX0_stepArm, Cond.instanceMethod yX0_stepArm, Cond.selects RX0 yX0_stepArm yX0_stepArm, Cond.code yX0_stepArm cX0_stepArm 4 (some .int), Cond.constant RX0 110 (16777215), Cond.constant RX0 111 (-352321536), Cond.methodLink RX0 83 yX0_stepThumb, Cond.instanceMethod yX0_stepThumb, Cond.selects RX0 yX0_stepThumb yX0_stepThumb, Cond.code yX0_stepThumb cX0_stepThumb 7 (some .int), Cond.methodLink RX0 86 yX0_stepPower, Cond.instanceMethod yX0_stepPower, Cond.selects RX0 yX0_stepPower yX0_stepPower, Cond.code yX0_stepPower cX0_stepPower 3 (some .int), Cond.constant RX0 118 (67108860), Cond.constant RX0 119 (-67108861), Cond.methodLink RX0 115 yX1_highestFirst, Cond.instanceMethod yX1_highestFirst, Cond.selects RX1 yX1_highestFirst yX1_highestFirst, Cond.code yX1_highestFirst cX1_highestFirst 2 (some .int), Cond.methodLink RX0 120 yX1_setHighestFirst]
def wsX0_pass_r5 : List Cond := [Cond.instanceMethod yX1_setHighestFirst, Cond.selects RX1 yX1_setHighestFirst yX1_setHighestFirst, Cond.code yX1_setHighestFirst cX1_setHighestFirst 3 none, Cond.methodLink RX0 89 yX0_stepSparc, Cond.instanceMethod yX0_stepSparc, Cond.selects RX0 yX0_stepSparc yX0_stepSparc, Cond.code yX0_stepSparc cX0_stepSparc 5 (some .int), Cond.constant RX0 123 (1069547520), Cond.constant RX0 124 (1073741824), Cond.constant RX0 125 (4194303), Cond.methodLink RX0 92 yX0_stepRisc, Cond.instanceMethod yX0_stepRisc, Cond.selects RX0 yX0_stepRisc yX0_stepRisc, Cond.code yX0_stepRisc cX0_stepRisc 4 (some .int), Cond.methodLink RX0 126 yX0_replaceRiscJump, Cond.instanceMethod yX0_replaceRiscJump, Cond.selects RX0 yX0_replaceRiscJump yX0_replaceRiscJump, Cond.code yX0_replaceRiscJump cX0_replaceRiscJump 5 none, Cond.constant RX0 133 (1044480), Cond.methodLink RX0 129 yX0_replaceRiscPair, Cond.instanceMethod yX0_replaceRiscPair, Cond.selects RX0 yX0_replaceRiscPair yX0_replaceRiscPair, Cond.code yX0_replaceRiscPair cX0_replaceRiscPair 7 none, Cond.constant RX0 134 (1048575)]
def wsX0_pass : List Cond := .code yX0_pass cX0_pass 5 none :: ((wsX0_pass_r1 ++ (wsX0_pass_r2 ++ (wsX0_pass_r3 ++ (wsX0_pass_r4 ++ wsX0_pass_r5)))) ++ wsX00 ++ wsX10)
def wsX0_giveRest : List Cond := .code yX0_giveRest cX0_giveRest 3 none :: ([.fieldLink RX0 14 "BranchFilters$Filter" "held" "LBranchFilters$Row;", .fieldLink RX0 42 "BranchFilters$Filter" "place" "I", .fieldLink RX0 45 "BranchFilters$Filter" "given" "I", .methodLink RX0 57 yX1_size, .instanceMethod yX1_size, .selects RX1 yX1_size yX1_size, .initialized RX1, .code yX1_size cX1_size 1 (some .int), .fieldLink RX1 13 "BranchFilters$Row" "size" "I", .methodLink RX0 61 yX1_moveTo, .instanceMethod yX1_moveTo, .selects RX1 yX1_moveTo yX1_moveTo, .code yX1_moveTo cX1_moveTo 3 none, .fieldLink RX1 7 "BranchFilters$Row" "bytes" "[I", .methodLink RX1 17 arraycopyName, .native arraycopyName, .static arraycopyName, .initialized "java/lang/System"] ++ wsX00 ++ wsX10)
def wsX1_add : List Cond := .code yX1_add cX1_add 2 none :: ([.fieldLink RX1 7 "BranchFilters$Row" "bytes" "[I", .fieldLink RX1 13 "BranchFilters$Row" "size" "I"] ++ wsX10)
def wsX2_init_r1 : List Cond := [Cond.methodLink RX2 1 objectInit, Cond.instanceMethod objectInit, Cond.code objectInit ⟨#[0xb1]⟩ 1 none, Cond.classLink RX2 9 RX0, Cond.fieldLink RX2 11 "BranchFilters" "chain" "[LBranchFilters$Filter;", Cond.instantiable RX0 11, Cond.initialized RX0, Cond.classLink RX2 16 RX1, Cond.instantiable RX1 2, Cond.initialized RX1, Cond.fieldLink RX2 21 "BranchFilters" "moving" "LBranchFilters$Row;", Cond.fieldLink RX2 25 "BranchFilters" "result" "LBranchFilters$Row;", Cond.fieldLink RX2 28 "BranchFilters" "encoding" "Z", Cond.methodLink RX2 15 yX0_init, Cond.instanceMethod yX0_init, Cond.code yX0_init cX0_init 1 none, Cond.methodLink RX0 3 objectInit, Cond.classLink RX0 9 RX1, Cond.fieldLink RX0 14 "BranchFilters$Filter" "held" "LBranchFilters$Row;", Cond.arrayClass .int, Cond.fieldLink RX0 20 "BranchFilters$Filter" "past" "[I", Cond.fieldLink RX0 24 "BranchFilters$Filter" "distance" "I", Cond.methodLink RX0 11 yX1_init, Cond.instanceMethod yX1_init]
def wsX2_init_r2 : List Cond := [Cond.code yX1_init cX1_init 2 none, Cond.methodLink RX1 1 objectInit, Cond.fieldLink RX1 7 "BranchFilters$Row" "bytes" "[I", Cond.methodLink RX0 28 yX0_restart, Cond.instanceMethod yX0_restart, Cond.selects RX0 yX0_restart yX0_restart, Cond.code yX0_restart cX0_restart 4 none, Cond.fieldLink RX0 38 "BranchFilters$Filter" "encoding" "Z", Cond.fieldLink RX0 42 "BranchFilters$Filter" "place" "I", Cond.fieldLink RX0 45 "BranchFilters$Filter" "given" "I", Cond.fieldLink RX0 48 "BranchFilters$Filter" "replaced" "I", Cond.fieldLink RX0 51 "BranchFilters$Filter" "mask" "I", Cond.fieldLink RX0 54 "BranchFilters$Filter" "last" "I", Cond.methodLink RX0 35 yX1_clear, Cond.instanceMethod yX1_clear, Cond.selects RX1 yX1_clear yX1_clear, Cond.code yX1_clear cX1_clear 1 none, Cond.fieldLink RX1 13 "BranchFilters$Row" "size" "I", Cond.methodLink RX2 18 yX1_init]
def wsX2_init : List Cond := .code yX2_init cX2_init 2 none :: ((wsX2_init_r1 ++ wsX2_init_r2) ++ wsX20 ++ wsX00 ++ wsX10)
def wsX2_beginAnew_r1 : List Cond := [Cond.fieldLink RX2 25 "BranchFilters" "result" "LBranchFilters$Row;", Cond.fieldLink RX2 56 "BranchFilters" "finished" "Z", Cond.fieldLink RX2 63 "BranchFilters" "came" "I", Cond.fieldLink RX2 11 "BranchFilters" "chain" "[LBranchFilters$Filter;", Cond.fieldLink RX2 50 "BranchFilters" "start" "I", Cond.fieldLink RX2 28 "BranchFilters" "encoding" "Z", Cond.methodLink RX2 111 yX1_clear, Cond.instanceMethod yX1_clear, Cond.selects RX1 yX1_clear yX1_clear, Cond.initialized RX1, Cond.code yX1_clear cX1_clear 1 none, Cond.fieldLink RX1 13 "BranchFilters$Row" "size" "I", Cond.methodLink RX2 114 yX0_restart, Cond.instanceMethod yX0_restart, Cond.selects RX0 yX0_restart yX0_restart, Cond.initialized RX0, Cond.code yX0_restart cX0_restart 4 none, Cond.fieldLink RX0 14 "BranchFilters$Filter" "held" "LBranchFilters$Row;", Cond.fieldLink RX0 20 "BranchFilters$Filter" "past" "[I", Cond.fieldLink RX0 38 "BranchFilters$Filter" "encoding" "Z", Cond.fieldLink RX0 42 "BranchFilters$Filter" "place" "I", Cond.fieldLink RX0 45 "BranchFilters$Filter" "given" "I", Cond.fieldLink RX0 48 "BranchFilters$Filter" "replaced" "I", Cond.fieldLink RX0 51 "BranchFilters$Filter" "mask" "I"]
def wsX2_beginAnew_r2 : List Cond := [Cond.fieldLink RX0 54 "BranchFilters$Filter" "last" "I", Cond.methodLink RX0 35 yX1_clear]
def wsX2_beginAnew : List Cond := .code yX2_beginAnew cX2_beginAnew 2 none :: ((wsX2_beginAnew_r1 ++ wsX2_beginAnew_r2) ++ wsX20 ++ wsX10 ++ wsX00)
def wsX2_filter_r1 : List Cond := [Cond.classLink RX2 32 "java/lang/IllegalArgumentException", Cond.initialized "java/lang/IllegalArgumentException", Cond.fieldLink RX2 11 "BranchFilters" "chain" "[LBranchFilters$Filter;", Cond.methodLink RX2 43 yX0_become, Cond.instanceMethod yX0_become, Cond.selects RX0 yX0_become yX0_become, Cond.initialized RX0, Cond.code yX0_become cX0_become 3 none, Cond.fieldLink RX0 32 "BranchFilters$Filter" "kind" "I", Cond.fieldLink RX0 24 "BranchFilters$Filter" "distance" "I", Cond.methodLink RX2 47 yX2_beginAnew, Cond.instanceMethod yX2_beginAnew, Cond.selects RX2 yX2_beginAnew yX2_beginAnew, Cond.initialized RX2, Cond.code yX2_beginAnew cX2_beginAnew 2 none, Cond.fieldLink RX2 25 "BranchFilters" "result" "LBranchFilters$Row;", Cond.fieldLink RX2 56 "BranchFilters" "finished" "Z", Cond.fieldLink RX2 63 "BranchFilters" "came" "I", Cond.fieldLink RX2 50 "BranchFilters" "start" "I", Cond.fieldLink RX2 28 "BranchFilters" "encoding" "Z", Cond.methodLink RX2 111 yX1_clear, Cond.instanceMethod yX1_clear, Cond.selects RX1 yX1_clear yX1_clear, Cond.initialized RX1]
def wsX2_filter_r2 : List Cond := [Cond.code yX1_clear cX1_clear 1 none, Cond.fieldLink RX1 13 "BranchFilters$Row" "size" "I", Cond.methodLink RX2 114 yX0_restart, Cond.instanceMethod yX0_restart, Cond.selects RX0 yX0_restart yX0_restart, Cond.code yX0_restart cX0_restart 4 none, Cond.fieldLink RX0 14 "BranchFilters$Filter" "held" "LBranchFilters$Row;", Cond.fieldLink RX0 20 "BranchFilters$Filter" "past" "[I", Cond.fieldLink RX0 38 "BranchFilters$Filter" "encoding" "Z", Cond.fieldLink RX0 42 "BranchFilters$Filter" "place" "I", Cond.fieldLink RX0 45 "BranchFilters$Filter" "given" "I", Cond.fieldLink RX0 48 "BranchFilters$Filter" "replaced" "I", Cond.fieldLink RX0 51 "BranchFilters$Filter" "mask" "I", Cond.fieldLink RX0 54 "BranchFilters$Filter" "last" "I", Cond.methodLink RX0 35 yX1_clear]
def wsX2_filter : List Cond := .code yX2_filter cX2_filter 4 none :: ((wsX2_filter_r1 ++ wsX2_filter_r2) ++ wsX20 ++ wsX00 ++ wsX10 ++ (vx_atS RX2 36 "java/lang/IllegalArgumentException" ["java/lang/RuntimeException", "java/lang/Exception"]).filter goodWord)
def wsX2_begin_r1 : List Cond := [Cond.fieldLink RX2 50 "BranchFilters" "start" "I", Cond.fieldLink RX2 28 "BranchFilters" "encoding" "Z", Cond.methodLink RX2 47 yX2_beginAnew, Cond.instanceMethod yX2_beginAnew, Cond.selects RX2 yX2_beginAnew yX2_beginAnew, Cond.initialized RX2, Cond.code yX2_beginAnew cX2_beginAnew 2 none, Cond.fieldLink RX2 25 "BranchFilters" "result" "LBranchFilters$Row;", Cond.fieldLink RX2 56 "BranchFilters" "finished" "Z", Cond.fieldLink RX2 63 "BranchFilters" "came" "I", Cond.fieldLink RX2 11 "BranchFilters" "chain" "[LBranchFilters$Filter;", Cond.methodLink RX2 111 yX1_clear, Cond.instanceMethod yX1_clear, Cond.selects RX1 yX1_clear yX1_clear, Cond.initialized RX1, Cond.code yX1_clear cX1_clear 1 none, Cond.fieldLink RX1 13 "BranchFilters$Row" "size" "I", Cond.methodLink RX2 114 yX0_restart, Cond.instanceMethod yX0_restart, Cond.selects RX0 yX0_restart yX0_restart, Cond.initialized RX0, Cond.code yX0_restart cX0_restart 4 none, Cond.fieldLink RX0 14 "BranchFilters$Filter" "held" "LBranchFilters$Row;", Cond.fieldLink RX0 20 "BranchFilters$Filter" "past" "[I"]
def wsX2_begin_r2 : List Cond := [Cond.fieldLink RX0 38 "BranchFilters$Filter" "encoding" "Z", Cond.fieldLink RX0 42 "BranchFilters$Filter" "place" "I", Cond.fieldLink RX0 45 "BranchFilters$Filter" "given" "I", Cond.fieldLink RX0 48 "BranchFilters$Filter" "replaced" "I", Cond.fieldLink RX0 51 "BranchFilters$Filter" "mask" "I", Cond.fieldLink RX0 54 "BranchFilters$Filter" "last" "I", Cond.methodLink RX0 35 yX1_clear]
def wsX2_begin : List Cond := .code yX2_begin cX2_begin 3 none :: ((wsX2_begin_r1 ++ wsX2_begin_r2) ++ wsX20 ++ wsX10 ++ wsX00)
def wsX2_sendThroughChain_r1 : List Cond := [Cond.fieldLink RX2 11 "BranchFilters" "chain" "[LBranchFilters$Filter;", Cond.fieldLink RX2 28 "BranchFilters" "encoding" "Z", Cond.fieldLink RX2 21 "BranchFilters" "moving" "LBranchFilters$Row;", Cond.fieldLink RX2 25 "BranchFilters" "result" "LBranchFilters$Row;", Cond.methodLink RX2 118 yX0_pass, Cond.instanceMethod yX0_pass, Cond.selects RX0 yX0_pass yX0_pass, Cond.initialized RX0, Cond.code yX0_pass cX0_pass 5 none, Cond.fieldLink RX0 14 "BranchFilters$Filter" "held" "LBranchFilters$Row;", Cond.fieldLink RX0 65 "BranchFilters$Filter" "here" "I", Cond.fieldLink RX0 68 "BranchFilters$Filter" "NEEDED" "[I", Cond.fieldLink RX0 32 "BranchFilters$Filter" "kind" "I", Cond.fieldLink RX0 42 "BranchFilters$Filter" "place" "I", Cond.fieldLink RX0 45 "BranchFilters$Filter" "given" "I", Cond.methodLink RX0 57 yX1_size, Cond.instanceMethod yX1_size, Cond.selects RX1 yX1_size yX1_size, Cond.initialized RX1, Cond.code yX1_size cX1_size 1 (some .int), Cond.fieldLink RX1 13 "BranchFilters$Row" "size" "I", Cond.methodLink RX0 61 yX1_moveTo, Cond.instanceMethod yX1_moveTo, Cond.selects RX1 yX1_moveTo yX1_moveTo]
def wsX2_sendThroughChain_r2 : List Cond := [Cond.code yX1_moveTo cX1_moveTo 3 none, Cond.fieldLink RX1 7 "BranchFilters$Row" "bytes" "[I", Cond.methodLink RX1 17 arraycopyName, Cond.native arraycopyName, Cond.static arraycopyName, Cond.initialized "java/lang/System", Cond.methodLink RX0 71 yX0_step, Cond.instanceMethod yX0_step, Cond.selects RX0 yX0_step yX0_step, Cond.code yX0_step cX0_step 1 (some .int), Cond.methodLink RX0 74 yX0_stepDelta, Cond.instanceMethod yX0_stepDelta, Cond.selects RX0 yX0_stepDelta yX0_stepDelta, Cond.code yX0_stepDelta cX0_stepDelta 4 (some .int), Cond.fieldLink RX0 20 "BranchFilters$Filter" "past" "[I", Cond.fieldLink RX0 24 "BranchFilters$Filter" "distance" "I", Cond.fieldLink RX0 38 "BranchFilters$Filter" "encoding" "Z", Cond.methodLink RX0 95 yX1_at, Cond.instanceMethod yX1_at, Cond.selects RX1 yX1_at yX1_at, Cond.code yX1_at cX1_at 2 (some .int), Cond.methodLink RX0 99 yX0_moved, Cond.instanceMethod yX0_moved, Cond.selects RX0 yX0_moved yX0_moved]
def wsX2_sendThroughChain_r3 : List Cond := [Cond.code yX0_moved cX0_moved 3 (some .int), Cond.methodLink RX0 103 yX1_set, Cond.instanceMethod yX1_set, Cond.selects RX1 yX1_set yX1_set, Cond.code yX1_set cX1_set 3 none, Cond.methodLink RX0 77 yX0_stepX86, Cond.instanceMethod yX0_stepX86, Cond.selects RX0 yX0_stepX86 yX0_stepX86, Cond.code yX0_stepX86 cX0_stepX86 4 (some .int), Cond.fieldLink RX0 51 "BranchFilters$Filter" "mask" "I", Cond.fieldLink RX0 48 "BranchFilters$Filter" "replaced" "I", Cond.methodLink RX0 135 yX0_ageMask, Cond.instanceMethod yX0_ageMask, Cond.selects RX0 yX0_ageMask yX0_ageMask, Cond.code yX0_ageMask cX0_ageMask 3 none, Cond.fieldLink RX0 54 "BranchFilters$Filter" "last" "I", Cond.methodLink RX0 138 yX0_isSignByte, Cond.static yX0_isSignByte, Cond.code yX0_isSignByte cX0_isSignByte 1 (some .boolean), Cond.methodLink RX0 142 yX0_maskAllows, Cond.instanceMethod yX0_maskAllows, Cond.selects RX0 yX0_maskAllows yX0_maskAllows, Cond.code yX0_maskAllows cX0_maskAllows 3 (some .boolean), Cond.methodLink RX0 107 yX1_lowestFirst]
def wsX2_sendThroughChain_r4 : List Cond := [Cond.instanceMethod yX1_lowestFirst, Cond.selects RX1 yX1_lowestFirst yX1_lowestFirst, Cond.code yX1_lowestFirst cX1_lowestFirst 2 (some .int), Cond.methodLink RX0 146 yX0_x86Target, Cond.instanceMethod yX0_x86Target, Cond.selects RX0 yX0_x86Target yX0_x86Target, Cond.code yX0_x86Target cX0_x86Target 9 (some .int), Cond.methodLink RX0 112 yX1_setLowestFirst, Cond.instanceMethod yX1_setLowestFirst, Cond.selects RX1 yX1_setLowestFirst yX1_setLowestFirst, Cond.code yX1_setLowestFirst cX1_setLowestFirst 3 none, Cond.methodLink RX0 80 yX0_stepArm, Cond.instanceMethod yX0_stepArm, Cond.selects RX0 yX0_stepArm yX0_stepArm, Cond.code yX0_stepArm cX0_stepArm 4 (some .int), Cond.constant RX0 110 (16777215), Cond.constant RX0 111 (-352321536), Cond.methodLink RX0 83 yX0_stepThumb, Cond.instanceMethod yX0_stepThumb, Cond.selects RX0 yX0_stepThumb yX0_stepThumb, Cond.code yX0_stepThumb cX0_stepThumb 7 (some .int), Cond.methodLink RX0 86 yX0_stepPower, Cond.instanceMethod yX0_stepPower, Cond.selects RX0 yX0_stepPower yX0_stepPower]
def wsX2_sendThroughChain_r5 : List Cond := [Cond.code yX0_stepPower cX0_stepPower 3 (some .int), Cond.constant RX0 118 (67108860), Cond.constant RX0 119 (-67108861), Cond.methodLink RX0 115 yX1_highestFirst, Cond.instanceMethod yX1_highestFirst, Cond.selects RX1 yX1_highestFirst yX1_highestFirst, Cond.code yX1_highestFirst cX1_highestFirst 2 (some .int), Cond.methodLink RX0 120 yX1_setHighestFirst, Cond.instanceMethod yX1_setHighestFirst, Cond.selects RX1 yX1_setHighestFirst yX1_setHighestFirst, Cond.code yX1_setHighestFirst cX1_setHighestFirst 3 none, Cond.methodLink RX0 89 yX0_stepSparc, Cond.instanceMethod yX0_stepSparc, Cond.selects RX0 yX0_stepSparc yX0_stepSparc, Cond.code yX0_stepSparc cX0_stepSparc 5 (some .int), Cond.constant RX0 123 (1069547520), Cond.constant RX0 124 (1073741824), Cond.constant RX0 125 (4194303), Cond.methodLink RX0 92 yX0_stepRisc, Cond.instanceMethod yX0_stepRisc, Cond.selects RX0 yX0_stepRisc yX0_stepRisc, Cond.code yX0_stepRisc cX0_stepRisc 4 (some .int), Cond.methodLink RX0 126 yX0_replaceRiscJump, Cond.instanceMethod yX0_replaceRiscJump]
def wsX2_sendThroughChain_r6 : List Cond := [Cond.selects RX0 yX0_replaceRiscJump yX0_replaceRiscJump, Cond.code yX0_replaceRiscJump cX0_replaceRiscJump 5 none, Cond.constant RX0 133 (1044480), Cond.methodLink RX0 129 yX0_replaceRiscPair, Cond.instanceMethod yX0_replaceRiscPair, Cond.selects RX0 yX0_replaceRiscPair yX0_replaceRiscPair, Cond.code yX0_replaceRiscPair cX0_replaceRiscPair 7 none, Cond.constant RX0 134 (1048575), Cond.methodLink RX2 122 yX0_giveRest, Cond.instanceMethod yX0_giveRest, Cond.selects RX0 yX0_giveRest yX0_giveRest, Cond.code yX0_giveRest cX0_giveRest 3 none, Cond.methodLink RX2 75 yX1_size, Cond.methodLink RX2 125 yX1_moveTo]
def wsX2_sendThroughChain : List Cond := .code yX2_sendThroughChain cX2_sendThroughChain 4 none :: ((wsX2_sendThroughChain_r1 ++ (wsX2_sendThroughChain_r2 ++ (wsX2_sendThroughChain_r3 ++ (wsX2_sendThroughChain_r4 ++ (wsX2_sendThroughChain_r5 ++ wsX2_sendThroughChain_r6))))) ++ wsX20 ++ wsX00 ++ wsX10)
def wsX2_feed_r1 : List Cond := [Cond.classLink RX2 32 "java/lang/IllegalArgumentException", Cond.initialized "java/lang/IllegalArgumentException", Cond.classLink RX2 59 "java/lang/IllegalStateException", Cond.initialized "java/lang/IllegalStateException", Cond.fieldLink RX2 56 "BranchFilters" "finished" "Z", Cond.fieldLink RX2 63 "BranchFilters" "came" "I", Cond.fieldLink RX2 21 "BranchFilters" "moving" "LBranchFilters$Row;", Cond.fieldLink RX2 25 "BranchFilters" "result" "LBranchFilters$Row;", Cond.methodLink RX2 68 yX1_add, Cond.instanceMethod yX1_add, Cond.selects RX1 yX1_add yX1_add, Cond.initialized RX1, Cond.code yX1_add cX1_add 2 none, Cond.fieldLink RX1 7 "BranchFilters$Row" "bytes" "[I", Cond.fieldLink RX1 13 "BranchFilters$Row" "size" "I", Cond.methodLink RX2 71 yX2_sendThroughChain, Cond.instanceMethod yX2_sendThroughChain, Cond.selects RX2 yX2_sendThroughChain yX2_sendThroughChain, Cond.initialized RX2, Cond.code yX2_sendThroughChain cX2_sendThroughChain 4 none, Cond.fieldLink RX2 11 "BranchFilters" "chain" "[LBranchFilters$Filter;", Cond.fieldLink RX2 28 "BranchFilters" "encoding" "Z", Cond.methodLink RX2 118 yX0_pass, Cond.instanceMethod yX0_pass]
def wsX2_feed_r2 : List Cond := [Cond.selects RX0 yX0_pass yX0_pass, Cond.initialized RX0, Cond.code yX0_pass cX0_pass 5 none, Cond.fieldLink RX0 14 "BranchFilters$Filter" "held" "LBranchFilters$Row;", Cond.fieldLink RX0 65 "BranchFilters$Filter" "here" "I", Cond.fieldLink RX0 68 "BranchFilters$Filter" "NEEDED" "[I", Cond.fieldLink RX0 32 "BranchFilters$Filter" "kind" "I", Cond.fieldLink RX0 42 "BranchFilters$Filter" "place" "I", Cond.fieldLink RX0 45 "BranchFilters$Filter" "given" "I", Cond.methodLink RX0 57 yX1_size, Cond.instanceMethod yX1_size, Cond.selects RX1 yX1_size yX1_size, Cond.code yX1_size cX1_size 1 (some .int), Cond.methodLink RX0 61 yX1_moveTo, Cond.instanceMethod yX1_moveTo, Cond.selects RX1 yX1_moveTo yX1_moveTo, Cond.code yX1_moveTo cX1_moveTo 3 none, Cond.methodLink RX1 17 arraycopyName, Cond.native arraycopyName, Cond.static arraycopyName, Cond.initialized "java/lang/System", Cond.methodLink RX0 71 yX0_step, Cond.instanceMethod yX0_step, Cond.selects RX0 yX0_step yX0_step]
def wsX2_feed_r3 : List Cond := [Cond.code yX0_step cX0_step 1 (some .int), Cond.methodLink RX0 74 yX0_stepDelta, Cond.instanceMethod yX0_stepDelta, Cond.selects RX0 yX0_stepDelta yX0_stepDelta, Cond.code yX0_stepDelta cX0_stepDelta 4 (some .int), Cond.fieldLink RX0 20 "BranchFilters$Filter" "past" "[I", Cond.fieldLink RX0 24 "BranchFilters$Filter" "distance" "I", Cond.fieldLink RX0 38 "BranchFilters$Filter" "encoding" "Z", Cond.methodLink RX0 95 yX1_at, Cond.instanceMethod yX1_at, Cond.selects RX1 yX1_at yX1_at, Cond.code yX1_at cX1_at 2 (some .int), Cond.methodLink RX0 99 yX0_moved, Cond.instanceMethod yX0_moved, Cond.selects RX0 yX0_moved yX0_moved, Cond.code yX0_moved cX0_moved 3 (some .int), Cond.methodLink RX0 103 yX1_set, Cond.instanceMethod yX1_set, Cond.selects RX1 yX1_set yX1_set, Cond.code yX1_set cX1_set 3 none, Cond.methodLink RX0 77 yX0_stepX86, Cond.instanceMethod yX0_stepX86, Cond.selects RX0 yX0_stepX86 yX0_stepX86, Cond.code yX0_stepX86 cX0_stepX86 4 (some .int)]
def wsX2_feed_r4 : List Cond := [Cond.fieldLink RX0 51 "BranchFilters$Filter" "mask" "I", Cond.fieldLink RX0 48 "BranchFilters$Filter" "replaced" "I", Cond.methodLink RX0 135 yX0_ageMask, Cond.instanceMethod yX0_ageMask, Cond.selects RX0 yX0_ageMask yX0_ageMask, Cond.code yX0_ageMask cX0_ageMask 3 none, Cond.fieldLink RX0 54 "BranchFilters$Filter" "last" "I", Cond.methodLink RX0 138 yX0_isSignByte, Cond.static yX0_isSignByte, Cond.code yX0_isSignByte cX0_isSignByte 1 (some .boolean), Cond.methodLink RX0 142 yX0_maskAllows, Cond.instanceMethod yX0_maskAllows, Cond.selects RX0 yX0_maskAllows yX0_maskAllows, Cond.code yX0_maskAllows cX0_maskAllows 3 (some .boolean), Cond.methodLink RX0 107 yX1_lowestFirst, Cond.instanceMethod yX1_lowestFirst, Cond.selects RX1 yX1_lowestFirst yX1_lowestFirst, Cond.code yX1_lowestFirst cX1_lowestFirst 2 (some .int), Cond.methodLink RX0 146 yX0_x86Target, Cond.instanceMethod yX0_x86Target, Cond.selects RX0 yX0_x86Target yX0_x86Target, Cond.code yX0_x86Target cX0_x86Target 9 (some .int), Cond.methodLink RX0 112 yX1_setLowestFirst, Cond.instanceMethod yX1_setLowestFirst]
def wsX2_feed_r5 : List Cond := [Cond.selects RX1 yX1_setLowestFirst yX1_setLowestFirst, Cond.code yX1_setLowestFirst cX1_setLowestFirst 3 none, Cond.methodLink RX0 80 yX0_stepArm, Cond.instanceMethod yX0_stepArm, Cond.selects RX0 yX0_stepArm yX0_stepArm, Cond.code yX0_stepArm cX0_stepArm 4 (some .int), Cond.constant RX0 110 (16777215), Cond.constant RX0 111 (-352321536), Cond.methodLink RX0 83 yX0_stepThumb, Cond.instanceMethod yX0_stepThumb, Cond.selects RX0 yX0_stepThumb yX0_stepThumb, Cond.code yX0_stepThumb cX0_stepThumb 7 (some .int), Cond.methodLink RX0 86 yX0_stepPower, Cond.instanceMethod yX0_stepPower, Cond.selects RX0 yX0_stepPower yX0_stepPower, Cond.code yX0_stepPower cX0_stepPower 3 (some .int), Cond.constant RX0 118 (67108860), Cond.constant RX0 119 (-67108861), Cond.methodLink RX0 115 yX1_highestFirst, Cond.instanceMethod yX1_highestFirst, Cond.selects RX1 yX1_highestFirst yX1_highestFirst, Cond.code yX1_highestFirst cX1_highestFirst 2 (some .int), Cond.methodLink RX0 120 yX1_setHighestFirst, Cond.instanceMethod yX1_setHighestFirst]
def wsX2_feed_r6 : List Cond := [Cond.selects RX1 yX1_setHighestFirst yX1_setHighestFirst, Cond.code yX1_setHighestFirst cX1_setHighestFirst 3 none, Cond.methodLink RX0 89 yX0_stepSparc, Cond.instanceMethod yX0_stepSparc, Cond.selects RX0 yX0_stepSparc yX0_stepSparc, Cond.code yX0_stepSparc cX0_stepSparc 5 (some .int), Cond.constant RX0 123 (1069547520), Cond.constant RX0 124 (1073741824), Cond.constant RX0 125 (4194303), Cond.methodLink RX0 92 yX0_stepRisc, Cond.instanceMethod yX0_stepRisc, Cond.selects RX0 yX0_stepRisc yX0_stepRisc, Cond.code yX0_stepRisc cX0_stepRisc 4 (some .int), Cond.methodLink RX0 126 yX0_replaceRiscJump, Cond.instanceMethod yX0_replaceRiscJump, Cond.selects RX0 yX0_replaceRiscJump yX0_replaceRiscJump, Cond.code yX0_replaceRiscJump cX0_replaceRiscJump 5 none, Cond.constant RX0 133 (1044480), Cond.methodLink RX0 129 yX0_replaceRiscPair, Cond.instanceMethod yX0_replaceRiscPair, Cond.selects RX0 yX0_replaceRiscPair yX0_replaceRiscPair, Cond.code yX0_replaceRiscPair cX0_replaceRiscPair 7 none, Cond.constant RX0 134 (1048575), Cond.methodLink RX2 122 yX0_giveRest]
def wsX2_feed_r7 : List Cond := [Cond.instanceMethod yX0_giveRest, Cond.selects RX0 yX0_giveRest yX0_giveRest, Cond.code yX0_giveRest cX0_giveRest 3 none, Cond.methodLink RX2 75 yX1_size, Cond.methodLink RX2 125 yX1_moveTo]
def wsX2_feed : List Cond := .code yX2_feed cX2_feed 8 (some .int) :: ((wsX2_feed_r1 ++ (wsX2_feed_r2 ++ (wsX2_feed_r3 ++ (wsX2_feed_r4 ++ (wsX2_feed_r5 ++ (wsX2_feed_r6 ++ wsX2_feed_r7)))))) ++ wsX20 ++ wsX10 ++ wsX00 ++ (vx_atS RX2 36 "java/lang/IllegalArgumentException" ["java/lang/RuntimeException", "java/lang/Exception"]).filter goodWord ++ (vx_atS RX2 62 "java/lang/IllegalStateException" ["java/lang/RuntimeException", "java/lang/Exception"]).filter goodWord)
def wsX2_finish_r1 : List Cond := [Cond.classLink RX2 59 "java/lang/IllegalStateException", Cond.initialized "java/lang/IllegalStateException", Cond.fieldLink RX2 56 "BranchFilters" "finished" "Z", Cond.fieldLink RX2 25 "BranchFilters" "result" "LBranchFilters$Row;", Cond.methodLink RX2 71 yX2_sendThroughChain, Cond.instanceMethod yX2_sendThroughChain, Cond.selects RX2 yX2_sendThroughChain yX2_sendThroughChain, Cond.initialized RX2, Cond.code yX2_sendThroughChain cX2_sendThroughChain 4 none, Cond.fieldLink RX2 11 "BranchFilters" "chain" "[LBranchFilters$Filter;", Cond.fieldLink RX2 28 "BranchFilters" "encoding" "Z", Cond.fieldLink RX2 21 "BranchFilters" "moving" "LBranchFilters$Row;", Cond.methodLink RX2 118 yX0_pass, Cond.instanceMethod yX0_pass, Cond.selects RX0 yX0_pass yX0_pass, Cond.initialized RX0, Cond.code yX0_pass cX0_pass 5 none, Cond.fieldLink RX0 14 "BranchFilters$Filter" "held" "LBranchFilters$Row;", Cond.fieldLink RX0 65 "BranchFilters$Filter" "here" "I", Cond.fieldLink RX0 68 "BranchFilters$Filter" "NEEDED" "[I", Cond.fieldLink RX0 32 "BranchFilters$Filter" "kind" "I", Cond.fieldLink RX0 42 "BranchFilters$Filter" "place" "I", Cond.fieldLink RX0 45 "BranchFilters$Filter" "given" "I", Cond.methodLink RX0 57 yX1_size]
def wsX2_finish_r2 : List Cond := [Cond.instanceMethod yX1_size, Cond.selects RX1 yX1_size yX1_size, Cond.initialized RX1, Cond.code yX1_size cX1_size 1 (some .int), Cond.fieldLink RX1 13 "BranchFilters$Row" "size" "I", Cond.methodLink RX0 61 yX1_moveTo, Cond.instanceMethod yX1_moveTo, Cond.selects RX1 yX1_moveTo yX1_moveTo, Cond.code yX1_moveTo cX1_moveTo 3 none, Cond.fieldLink RX1 7 "BranchFilters$Row" "bytes" "[I", Cond.methodLink RX1 17 arraycopyName, Cond.native arraycopyName, Cond.static arraycopyName, Cond.initialized "java/lang/System", Cond.methodLink RX0 71 yX0_step, Cond.instanceMethod yX0_step, Cond.selects RX0 yX0_step yX0_step, Cond.code yX0_step cX0_step 1 (some .int), Cond.methodLink RX0 74 yX0_stepDelta, Cond.instanceMethod yX0_stepDelta, Cond.selects RX0 yX0_stepDelta yX0_stepDelta, Cond.code yX0_stepDelta cX0_stepDelta 4 (some .int), Cond.fieldLink RX0 20 "BranchFilters$Filter" "past" "[I", Cond.fieldLink RX0 24 "BranchFilters$Filter" "distance" "I"]
def wsX2_finish_r3 : List Cond := [Cond.fieldLink RX0 38 "BranchFilters$Filter" "encoding" "Z", Cond.methodLink RX0 95 yX1_at, Cond.instanceMethod yX1_at, Cond.selects RX1 yX1_at yX1_at, Cond.code yX1_at cX1_at 2 (some .int), Cond.methodLink RX0 99 yX0_moved, Cond.instanceMethod yX0_moved, Cond.selects RX0 yX0_moved yX0_moved, Cond.code yX0_moved cX0_moved 3 (some .int), Cond.methodLink RX0 103 yX1_set, Cond.instanceMethod yX1_set, Cond.selects RX1 yX1_set yX1_set, Cond.code yX1_set cX1_set 3 none, Cond.methodLink RX0 77 yX0_stepX86, Cond.instanceMethod yX0_stepX86, Cond.selects RX0 yX0_stepX86 yX0_stepX86, Cond.code yX0_stepX86 cX0_stepX86 4 (some .int), Cond.fieldLink RX0 51 "BranchFilters$Filter" "mask" "I", Cond.fieldLink RX0 48 "BranchFilters$Filter" "replaced" "I", Cond.methodLink RX0 135 yX0_ageMask, Cond.instanceMethod yX0_ageMask, Cond.selects RX0 yX0_ageMask yX0_ageMask, Cond.code yX0_ageMask cX0_ageMask 3 none, Cond.fieldLink RX0 54 "BranchFilters$Filter" "last" "I"]
def wsX2_finish_r4 : List Cond := [Cond.methodLink RX0 138 yX0_isSignByte, Cond.static yX0_isSignByte, Cond.code yX0_isSignByte cX0_isSignByte 1 (some .boolean), Cond.methodLink RX0 142 yX0_maskAllows, Cond.instanceMethod yX0_maskAllows, Cond.selects RX0 yX0_maskAllows yX0_maskAllows, Cond.code yX0_maskAllows cX0_maskAllows 3 (some .boolean), Cond.methodLink RX0 107 yX1_lowestFirst, Cond.instanceMethod yX1_lowestFirst, Cond.selects RX1 yX1_lowestFirst yX1_lowestFirst, Cond.code yX1_lowestFirst cX1_lowestFirst 2 (some .int), Cond.methodLink RX0 146 yX0_x86Target, Cond.instanceMethod yX0_x86Target, Cond.selects RX0 yX0_x86Target yX0_x86Target, Cond.code yX0_x86Target cX0_x86Target 9 (some .int), Cond.methodLink RX0 112 yX1_setLowestFirst, Cond.instanceMethod yX1_setLowestFirst, Cond.selects RX1 yX1_setLowestFirst yX1_setLowestFirst, Cond.code yX1_setLowestFirst cX1_setLowestFirst 3 none, Cond.methodLink RX0 80 yX0_stepArm, Cond.instanceMethod yX0_stepArm, Cond.selects RX0 yX0_stepArm yX0_stepArm, Cond.code yX0_stepArm cX0_stepArm 4 (some .int), Cond.constant RX0 110 (16777215)]
def wsX2_finish_r5 : List Cond := [Cond.constant RX0 111 (-352321536), Cond.methodLink RX0 83 yX0_stepThumb, Cond.instanceMethod yX0_stepThumb, Cond.selects RX0 yX0_stepThumb yX0_stepThumb, Cond.code yX0_stepThumb cX0_stepThumb 7 (some .int), Cond.methodLink RX0 86 yX0_stepPower, Cond.instanceMethod yX0_stepPower, Cond.selects RX0 yX0_stepPower yX0_stepPower, Cond.code yX0_stepPower cX0_stepPower 3 (some .int), Cond.constant RX0 118 (67108860), Cond.constant RX0 119 (-67108861), Cond.methodLink RX0 115 yX1_highestFirst, Cond.instanceMethod yX1_highestFirst, Cond.selects RX1 yX1_highestFirst yX1_highestFirst, Cond.code yX1_highestFirst cX1_highestFirst 2 (some .int), Cond.methodLink RX0 120 yX1_setHighestFirst, Cond.instanceMethod yX1_setHighestFirst, Cond.selects RX1 yX1_setHighestFirst yX1_setHighestFirst, Cond.code yX1_setHighestFirst cX1_setHighestFirst 3 none, Cond.methodLink RX0 89 yX0_stepSparc, Cond.instanceMethod yX0_stepSparc, Cond.selects RX0 yX0_stepSparc yX0_stepSparc, Cond.code yX0_stepSparc cX0_stepSparc 5 (some .int), Cond.constant RX0 123 (1069547520)]
def wsX2_finish_r6 : List Cond := [Cond.constant RX0 124 (1073741824), Cond.constant RX0 125 (4194303), Cond.methodLink RX0 92 yX0_stepRisc, Cond.instanceMethod yX0_stepRisc, Cond.selects RX0 yX0_stepRisc yX0_stepRisc, Cond.code yX0_stepRisc cX0_stepRisc 4 (some .int), Cond.methodLink RX0 126 yX0_replaceRiscJump, Cond.instanceMethod yX0_replaceRiscJump, Cond.selects RX0 yX0_replaceRiscJump yX0_replaceRiscJump, Cond.code yX0_replaceRiscJump cX0_replaceRiscJump 5 none, Cond.constant RX0 133 (1044480), Cond.methodLink RX0 129 yX0_replaceRiscPair, Cond.instanceMethod yX0_replaceRiscPair, Cond.selects RX0 yX0_replaceRiscPair yX0_replaceRiscPair, Cond.code yX0_replaceRiscPair cX0_replaceRiscPair 7 none, Cond.constant RX0 134 (1048575), Cond.methodLink RX2 122 yX0_giveRest, Cond.instanceMethod yX0_giveRest, Cond.selects RX0 yX0_giveRest yX0_giveRest, Cond.code yX0_giveRest cX0_giveRest 3 none, Cond.methodLink RX2 75 yX1_size, Cond.methodLink RX2 125 yX1_moveTo]
def wsX2_finish : List Cond := .code yX2_finish cX2_finish 1 (some .int) :: ((wsX2_finish_r1 ++ (wsX2_finish_r2 ++ (wsX2_finish_r3 ++ (wsX2_finish_r4 ++ (wsX2_finish_r5 ++ wsX2_finish_r6))))) ++ wsX20 ++ wsX00 ++ wsX10 ++ (vx_atS RX2 62 "java/lang/IllegalStateException" ["java/lang/RuntimeException", "java/lang/Exception"]).filter goodWord)
def wsX2_output : List Cond := .code yX2_output cX2_output 2 (some .int) :: ([.fieldLink RX2 25 "BranchFilters" "result" "LBranchFilters$Row;", .methodLink RX2 75 yX1_size, .instanceMethod yX1_size, .selects RX1 yX1_size yX1_size, .initialized RX1, .code yX1_size cX1_size 1 (some .int), .fieldLink RX1 13 "BranchFilters$Row" "size" "I", .methodLink RX2 79 yX1_at, .instanceMethod yX1_at, .selects RX1 yX1_at yX1_at, .code yX1_at cX1_at 2 (some .int), .fieldLink RX1 7 "BranchFilters$Row" "bytes" "[I"] ++ wsX20 ++ wsX10)
def wsX2_count : List Cond := .code yX2_count cX2_count 4 (some .int) :: ([.classLink RX2 32 "java/lang/IllegalArgumentException", .initialized "java/lang/IllegalArgumentException", .fieldLink RX2 11 "BranchFilters" "chain" "[LBranchFilters$Filter;", .methodLink RX2 75 yX1_size, .instanceMethod yX1_size, .selects RX1 yX1_size yX1_size, .initialized RX1, .code yX1_size cX1_size 1 (some .int), .fieldLink RX1 13 "BranchFilters$Row" "size" "I"] ++ wsX20 ++ wsX00 ++ wsX10 ++ (vx_atS RX2 36 "java/lang/IllegalArgumentException" ["java/lang/RuntimeException", "java/lang/Exception"]).filter goodWord)
def wsX2_word : List Cond := .code yX2_word cX2_word 2 (some .int) :: ([.classLink RX2 103 "java/lang/IndexOutOfBoundsException", .initialized "java/lang/IndexOutOfBoundsException", .fieldLink RX2 25 "BranchFilters" "result" "LBranchFilters$Row;", .methodLink RX2 75 yX1_size, .instanceMethod yX1_size, .selects RX1 yX1_size yX1_size, .initialized RX1, .code yX1_size cX1_size 1 (some .int), .fieldLink RX1 13 "BranchFilters$Row" "size" "I", .methodLink RX2 108 yX1_lowestFirst, .instanceMethod yX1_lowestFirst, .selects RX1 yX1_lowestFirst yX1_lowestFirst, .code yX1_lowestFirst cX1_lowestFirst 2 (some .int), .fieldLink RX1 7 "BranchFilters$Row" "bytes" "[I"] ++ wsX20 ++ wsX10 ++ (vx_atS RX2 107 "java/lang/IndexOutOfBoundsException" ["java/lang/RuntimeException", "java/lang/Exception"]).filter goodWord)
def wsX3_anew : List Cond := .code yX3_anew cX3_anew 2 none :: ([.fieldLink RX3 57 "BranchFiltersModel" "came" "I", .fieldLink RX3 60 "BranchFiltersModel" "isFinished" "Z", .fieldLink RX3 63 "BranchFiltersModel" "outMany" "I", .fieldLink RX3 23 "BranchFiltersModel" "heldMany" "[I", .fieldLink RX3 29 "BranchFiltersModel" "given" "[I", .fieldLink RX3 32 "BranchFiltersModel" "put" "[I", .fieldLink RX3 35 "BranchFiltersModel" "mask" "[I", .fieldLink RX3 38 "BranchFiltersModel" "last" "[I", .fieldLink RX3 66 "BranchFiltersModel" "start" "I", .fieldLink RX3 26 "BranchFiltersModel" "past" "[I"] ++ wsX30)
def wsX3_init_r1 : List Cond := [Cond.methodLink RX3 1 objectInit, Cond.instanceMethod objectInit, Cond.code objectInit ⟨#[0xb1]⟩ 1 none, Cond.arrayClass .int, Cond.fieldLink RX3 7 "BranchFiltersModel" "kind" "[I", Cond.fieldLink RX3 13 "BranchFiltersModel" "distance" "[I", Cond.fieldLink RX3 16 "BranchFiltersModel" "encoding" "Z", Cond.fieldLink RX3 20 "BranchFiltersModel" "held" "[I", Cond.fieldLink RX3 23 "BranchFiltersModel" "heldMany" "[I", Cond.fieldLink RX3 26 "BranchFiltersModel" "past" "[I", Cond.fieldLink RX3 29 "BranchFiltersModel" "given" "[I", Cond.fieldLink RX3 32 "BranchFiltersModel" "put" "[I", Cond.fieldLink RX3 35 "BranchFiltersModel" "mask" "[I", Cond.fieldLink RX3 38 "BranchFiltersModel" "last" "[I", Cond.fieldLink RX3 41 "BranchFiltersModel" "in" "[I", Cond.fieldLink RX3 44 "BranchFiltersModel" "next" "[I", Cond.fieldLink RX3 47 "BranchFiltersModel" "out" "[I", Cond.methodLink RX3 50 yX3_anew, Cond.instanceMethod yX3_anew, Cond.selects RX3 yX3_anew yX3_anew, Cond.initialized RX3, Cond.code yX3_anew cX3_anew 2 none, Cond.fieldLink RX3 57 "BranchFiltersModel" "came" "I", Cond.fieldLink RX3 60 "BranchFiltersModel" "isFinished" "Z"]
def wsX3_init_r2 : List Cond := [Cond.fieldLink RX3 63 "BranchFiltersModel" "outMany" "I", Cond.fieldLink RX3 66 "BranchFiltersModel" "start" "I"]
def wsX3_init : List Cond := .code yX3_init cX3_init 2 none :: ((wsX3_init_r1 ++ wsX3_init_r2) ++ wsX30)
def wsX3_thrown : List Cond := .code yX3_thrown cX3_thrown 1 (some .int) :: ([.fieldLink RX3 53 "BranchFiltersModel" "fault" "I"] ++ wsX30)
def wsX3_refused : List Cond := .code yX3_refused cX3_refused 2 (some .boolean) :: ([.fieldLink RX3 53 "BranchFiltersModel" "fault" "I"] ++ wsX30)
def wsX3_isIn : List Cond := .code yX3_isIn cX3_isIn 3 (some .boolean) :: ([])
def wsX3_filter_r1 : List Cond := [Cond.fieldLink RX3 7 "BranchFiltersModel" "kind" "[I", Cond.fieldLink RX3 13 "BranchFiltersModel" "distance" "[I", Cond.methodLink RX3 69 yX3_isIn, Cond.static yX3_isIn, Cond.initialized RX3, Cond.code yX3_isIn cX3_isIn 3 (some .boolean), Cond.methodLink RX3 73 yX3_refused, Cond.instanceMethod yX3_refused, Cond.selects RX3 yX3_refused yX3_refused, Cond.code yX3_refused cX3_refused 2 (some .boolean), Cond.fieldLink RX3 53 "BranchFiltersModel" "fault" "I", Cond.methodLink RX3 50 yX3_anew, Cond.instanceMethod yX3_anew, Cond.selects RX3 yX3_anew yX3_anew, Cond.code yX3_anew cX3_anew 2 none, Cond.fieldLink RX3 57 "BranchFiltersModel" "came" "I", Cond.fieldLink RX3 60 "BranchFiltersModel" "isFinished" "Z", Cond.fieldLink RX3 63 "BranchFiltersModel" "outMany" "I", Cond.fieldLink RX3 23 "BranchFiltersModel" "heldMany" "[I", Cond.fieldLink RX3 29 "BranchFiltersModel" "given" "[I", Cond.fieldLink RX3 32 "BranchFiltersModel" "put" "[I", Cond.fieldLink RX3 35 "BranchFiltersModel" "mask" "[I", Cond.fieldLink RX3 38 "BranchFiltersModel" "last" "[I", Cond.fieldLink RX3 66 "BranchFiltersModel" "start" "I"]
def wsX3_filter_r2 : List Cond := [Cond.fieldLink RX3 26 "BranchFiltersModel" "past" "[I"]
def wsX3_filter : List Cond := .code yX3_filter cX3_filter 4 none :: ((wsX3_filter_r1 ++ wsX3_filter_r2) ++ wsX30)
def wsX3_begin : List Cond := .code yX3_begin cX3_begin 3 none :: ([.fieldLink RX3 53 "BranchFiltersModel" "fault" "I", .fieldLink RX3 66 "BranchFiltersModel" "start" "I", .fieldLink RX3 16 "BranchFiltersModel" "encoding" "Z", .methodLink RX3 50 yX3_anew, .instanceMethod yX3_anew, .selects RX3 yX3_anew yX3_anew, .initialized RX3, .code yX3_anew cX3_anew 2 none, .fieldLink RX3 57 "BranchFiltersModel" "came" "I", .fieldLink RX3 60 "BranchFiltersModel" "isFinished" "Z", .fieldLink RX3 63 "BranchFiltersModel" "outMany" "I", .fieldLink RX3 23 "BranchFiltersModel" "heldMany" "[I", .fieldLink RX3 29 "BranchFiltersModel" "given" "[I", .fieldLink RX3 32 "BranchFiltersModel" "put" "[I", .fieldLink RX3 35 "BranchFiltersModel" "mask" "[I", .fieldLink RX3 38 "BranchFiltersModel" "last" "[I", .fieldLink RX3 26 "BranchFiltersModel" "past" "[I"] ++ wsX30)
def wsX3_at : List Cond := .code yX3_at cX3_at 3 (some .int) :: ([.fieldLink RX3 20 "BranchFiltersModel" "held" "[I"] ++ wsX30)
def wsX3_change : List Cond := .code yX3_change cX3_change 4 none :: ([.fieldLink RX3 20 "BranchFiltersModel" "held" "[I"] ++ wsX30)
def wsX3_high : List Cond := .code yX3_high cX3_high 3 (some .int) :: ([.methodLink RX3 77 yX3_at, .instanceMethod yX3_at, .selects RX3 yX3_at yX3_at, .initialized RX3, .code yX3_at cX3_at 3 (some .int), .fieldLink RX3 20 "BranchFiltersModel" "held" "[I"] ++ wsX30)
def wsX3_low : List Cond := .code yX3_low cX3_low 3 (some .int) :: ([.methodLink RX3 77 yX3_at, .instanceMethod yX3_at, .selects RX3 yX3_at yX3_at, .initialized RX3, .code yX3_at cX3_at 3 (some .int), .fieldLink RX3 20 "BranchFiltersModel" "held" "[I"] ++ wsX30)
def wsX3_setHigh : List Cond := .code yX3_setHigh cX3_setHigh 5 none :: ([.methodLink RX3 81 yX3_change, .instanceMethod yX3_change, .selects RX3 yX3_change yX3_change, .initialized RX3, .code yX3_change cX3_change 4 none, .fieldLink RX3 20 "BranchFiltersModel" "held" "[I"] ++ wsX30)
def wsX3_setLow : List Cond := .code yX3_setLow cX3_setLow 5 none :: ([.methodLink RX3 81 yX3_change, .instanceMethod yX3_change, .selects RX3 yX3_change yX3_change, .initialized RX3, .code yX3_change cX3_change 4 none, .fieldLink RX3 20 "BranchFiltersModel" "held" "[I"] ++ wsX30)
def wsX3_place : List Cond := .code yX3_place cX3_place 2 (some .int) :: ([.fieldLink RX3 66 "BranchFiltersModel" "start" "I", .fieldLink RX3 29 "BranchFiltersModel" "given" "[I"] ++ wsX30)
def wsX3_moved : List Cond := .code yX3_moved cX3_moved 3 (some .int) :: ([.fieldLink RX3 16 "BranchFiltersModel" "encoding" "Z"] ++ wsX30)
def wsX3_give : List Cond := .code yX3_give cX3_give 4 none :: ([.fieldLink RX3 44 "BranchFiltersModel" "next" "[I", .fieldLink RX3 85 "BranchFiltersModel" "nextMany" "I", .fieldLink RX3 23 "BranchFiltersModel" "heldMany" "[I", .fieldLink RX3 29 "BranchFiltersModel" "given" "[I", .methodLink RX3 77 yX3_at, .instanceMethod yX3_at, .selects RX3 yX3_at yX3_at, .initialized RX3, .code yX3_at cX3_at 3 (some .int), .fieldLink RX3 20 "BranchFiltersModel" "held" "[I", .methodLink RX3 81 yX3_change, .instanceMethod yX3_change, .selects RX3 yX3_change yX3_change, .code yX3_change cX3_change 4 none] ++ wsX30)
def wsX3_needs : List Cond := .code yX3_needs cX3_needs 1 (some .int) :: ([])
def wsX3_delta : List Cond := .code yX3_delta cX3_delta 6 none :: ([.fieldLink RX3 26 "BranchFiltersModel" "past" "[I", .fieldLink RX3 13 "BranchFiltersModel" "distance" "[I", .fieldLink RX3 16 "BranchFiltersModel" "encoding" "Z", .methodLink RX3 77 yX3_at, .instanceMethod yX3_at, .selects RX3 yX3_at yX3_at, .initialized RX3, .code yX3_at cX3_at 3 (some .int), .fieldLink RX3 20 "BranchFiltersModel" "held" "[I", .methodLink RX3 81 yX3_change, .instanceMethod yX3_change, .selects RX3 yX3_change yX3_change, .code yX3_change cX3_change 4 none, .methodLink RX3 88 yX3_give, .instanceMethod yX3_give, .selects RX3 yX3_give yX3_give, .code yX3_give cX3_give 4 none, .fieldLink RX3 44 "BranchFiltersModel" "next" "[I", .fieldLink RX3 85 "BranchFiltersModel" "nextMany" "I", .fieldLink RX3 23 "BranchFiltersModel" "heldMany" "[I", .fieldLink RX3 29 "BranchFiltersModel" "given" "[I"] ++ wsX30)
def wsX3_arm_r1 : List Cond := [Cond.fieldLink RX3 32 "BranchFiltersModel" "put" "[I", Cond.methodLink RX3 77 yX3_at, Cond.instanceMethod yX3_at, Cond.selects RX3 yX3_at yX3_at, Cond.initialized RX3, Cond.code yX3_at cX3_at 3 (some .int), Cond.fieldLink RX3 20 "BranchFiltersModel" "held" "[I", Cond.methodLink RX3 92 yX3_place, Cond.instanceMethod yX3_place, Cond.selects RX3 yX3_place yX3_place, Cond.code yX3_place cX3_place 2 (some .int), Cond.fieldLink RX3 66 "BranchFiltersModel" "start" "I", Cond.fieldLink RX3 29 "BranchFiltersModel" "given" "[I", Cond.methodLink RX3 96 yX3_moved, Cond.instanceMethod yX3_moved, Cond.selects RX3 yX3_moved yX3_moved, Cond.code yX3_moved cX3_moved 3 (some .int), Cond.fieldLink RX3 16 "BranchFiltersModel" "encoding" "Z", Cond.methodLink RX3 81 yX3_change, Cond.instanceMethod yX3_change, Cond.selects RX3 yX3_change yX3_change, Cond.code yX3_change cX3_change 4 none, Cond.methodLink RX3 88 yX3_give, Cond.instanceMethod yX3_give]
def wsX3_arm_r2 : List Cond := [Cond.selects RX3 yX3_give yX3_give, Cond.code yX3_give cX3_give 4 none, Cond.fieldLink RX3 44 "BranchFiltersModel" "next" "[I", Cond.fieldLink RX3 85 "BranchFiltersModel" "nextMany" "I", Cond.fieldLink RX3 23 "BranchFiltersModel" "heldMany" "[I"]
def wsX3_arm : List Cond := .code yX3_arm cX3_arm 3 none :: ((wsX3_arm_r1 ++ wsX3_arm_r2) ++ wsX30)
def wsX3_thumb_r1 : List Cond := [Cond.fieldLink RX3 32 "BranchFiltersModel" "put" "[I", Cond.methodLink RX3 77 yX3_at, Cond.instanceMethod yX3_at, Cond.selects RX3 yX3_at yX3_at, Cond.initialized RX3, Cond.code yX3_at cX3_at 3 (some .int), Cond.fieldLink RX3 20 "BranchFiltersModel" "held" "[I", Cond.methodLink RX3 88 yX3_give, Cond.instanceMethod yX3_give, Cond.selects RX3 yX3_give yX3_give, Cond.code yX3_give cX3_give 4 none, Cond.fieldLink RX3 44 "BranchFiltersModel" "next" "[I", Cond.fieldLink RX3 85 "BranchFiltersModel" "nextMany" "I", Cond.fieldLink RX3 23 "BranchFiltersModel" "heldMany" "[I", Cond.fieldLink RX3 29 "BranchFiltersModel" "given" "[I", Cond.methodLink RX3 81 yX3_change, Cond.instanceMethod yX3_change, Cond.selects RX3 yX3_change yX3_change, Cond.code yX3_change cX3_change 4 none, Cond.methodLink RX3 92 yX3_place, Cond.instanceMethod yX3_place, Cond.selects RX3 yX3_place yX3_place, Cond.code yX3_place cX3_place 2 (some .int), Cond.fieldLink RX3 66 "BranchFiltersModel" "start" "I"]
def wsX3_thumb_r2 : List Cond := [Cond.methodLink RX3 96 yX3_moved, Cond.instanceMethod yX3_moved, Cond.selects RX3 yX3_moved yX3_moved, Cond.code yX3_moved cX3_moved 3 (some .int), Cond.fieldLink RX3 16 "BranchFiltersModel" "encoding" "Z"]
def wsX3_thumb : List Cond := .code yX3_thumb cX3_thumb 3 none :: ((wsX3_thumb_r1 ++ wsX3_thumb_r2) ++ wsX30)
def wsX3_power_r1 : List Cond := [Cond.constant RX3 102 (67108860), Cond.constant RX3 103 (-67108861), Cond.fieldLink RX3 32 "BranchFiltersModel" "put" "[I", Cond.methodLink RX3 99 yX3_high, Cond.instanceMethod yX3_high, Cond.selects RX3 yX3_high yX3_high, Cond.initialized RX3, Cond.code yX3_high cX3_high 3 (some .int), Cond.methodLink RX3 77 yX3_at, Cond.instanceMethod yX3_at, Cond.selects RX3 yX3_at yX3_at, Cond.code yX3_at cX3_at 3 (some .int), Cond.fieldLink RX3 20 "BranchFiltersModel" "held" "[I", Cond.methodLink RX3 92 yX3_place, Cond.instanceMethod yX3_place, Cond.selects RX3 yX3_place yX3_place, Cond.code yX3_place cX3_place 2 (some .int), Cond.fieldLink RX3 66 "BranchFiltersModel" "start" "I", Cond.fieldLink RX3 29 "BranchFiltersModel" "given" "[I", Cond.methodLink RX3 96 yX3_moved, Cond.instanceMethod yX3_moved, Cond.selects RX3 yX3_moved yX3_moved, Cond.code yX3_moved cX3_moved 3 (some .int), Cond.fieldLink RX3 16 "BranchFiltersModel" "encoding" "Z"]
def wsX3_power_r2 : List Cond := [Cond.methodLink RX3 104 yX3_setHigh, Cond.instanceMethod yX3_setHigh, Cond.selects RX3 yX3_setHigh yX3_setHigh, Cond.code yX3_setHigh cX3_setHigh 5 none, Cond.methodLink RX3 81 yX3_change, Cond.instanceMethod yX3_change, Cond.selects RX3 yX3_change yX3_change, Cond.code yX3_change cX3_change 4 none, Cond.methodLink RX3 88 yX3_give, Cond.instanceMethod yX3_give, Cond.selects RX3 yX3_give yX3_give, Cond.code yX3_give cX3_give 4 none, Cond.fieldLink RX3 44 "BranchFiltersModel" "next" "[I", Cond.fieldLink RX3 85 "BranchFiltersModel" "nextMany" "I", Cond.fieldLink RX3 23 "BranchFiltersModel" "heldMany" "[I"]
def wsX3_power : List Cond := .code yX3_power cX3_power 4 none :: ((wsX3_power_r1 ++ wsX3_power_r2) ++ wsX30)
def wsX3_sparc_r1 : List Cond := [Cond.constant RX3 107 (1073741824), Cond.constant RX3 108 (4194303), Cond.fieldLink RX3 32 "BranchFiltersModel" "put" "[I", Cond.methodLink RX3 77 yX3_at, Cond.instanceMethod yX3_at, Cond.selects RX3 yX3_at yX3_at, Cond.initialized RX3, Cond.code yX3_at cX3_at 3 (some .int), Cond.fieldLink RX3 20 "BranchFiltersModel" "held" "[I", Cond.methodLink RX3 99 yX3_high, Cond.instanceMethod yX3_high, Cond.selects RX3 yX3_high yX3_high, Cond.code yX3_high cX3_high 3 (some .int), Cond.methodLink RX3 92 yX3_place, Cond.instanceMethod yX3_place, Cond.selects RX3 yX3_place yX3_place, Cond.code yX3_place cX3_place 2 (some .int), Cond.fieldLink RX3 66 "BranchFiltersModel" "start" "I", Cond.fieldLink RX3 29 "BranchFiltersModel" "given" "[I", Cond.methodLink RX3 96 yX3_moved, Cond.instanceMethod yX3_moved, Cond.selects RX3 yX3_moved yX3_moved, Cond.code yX3_moved cX3_moved 3 (some .int), Cond.fieldLink RX3 16 "BranchFiltersModel" "encoding" "Z"]
def wsX3_sparc_r2 : List Cond := [Cond.methodLink RX3 104 yX3_setHigh, Cond.instanceMethod yX3_setHigh, Cond.selects RX3 yX3_setHigh yX3_setHigh, Cond.code yX3_setHigh cX3_setHigh 5 none, Cond.methodLink RX3 81 yX3_change, Cond.instanceMethod yX3_change, Cond.selects RX3 yX3_change yX3_change, Cond.code yX3_change cX3_change 4 none, Cond.methodLink RX3 88 yX3_give, Cond.instanceMethod yX3_give, Cond.selects RX3 yX3_give yX3_give, Cond.code yX3_give cX3_give 4 none, Cond.fieldLink RX3 44 "BranchFiltersModel" "next" "[I", Cond.fieldLink RX3 85 "BranchFiltersModel" "nextMany" "I", Cond.fieldLink RX3 23 "BranchFiltersModel" "heldMany" "[I"]
def wsX3_sparc : List Cond := .code yX3_sparc cX3_sparc 5 none :: ((wsX3_sparc_r1 ++ wsX3_sparc_r2) ++ wsX30)
def wsX3_risc_r1 : List Cond := [Cond.fieldLink RX3 32 "BranchFiltersModel" "put" "[I", Cond.constant RX3 115 (1048575), Cond.methodLink RX3 109 yX3_low, Cond.instanceMethod yX3_low, Cond.selects RX3 yX3_low yX3_low, Cond.initialized RX3, Cond.code yX3_low cX3_low 3 (some .int), Cond.methodLink RX3 77 yX3_at, Cond.instanceMethod yX3_at, Cond.selects RX3 yX3_at yX3_at, Cond.code yX3_at cX3_at 3 (some .int), Cond.fieldLink RX3 20 "BranchFiltersModel" "held" "[I", Cond.methodLink RX3 92 yX3_place, Cond.instanceMethod yX3_place, Cond.selects RX3 yX3_place yX3_place, Cond.code yX3_place cX3_place 2 (some .int), Cond.fieldLink RX3 66 "BranchFiltersModel" "start" "I", Cond.fieldLink RX3 29 "BranchFiltersModel" "given" "[I", Cond.methodLink RX3 96 yX3_moved, Cond.instanceMethod yX3_moved, Cond.selects RX3 yX3_moved yX3_moved, Cond.code yX3_moved cX3_moved 3 (some .int), Cond.fieldLink RX3 16 "BranchFiltersModel" "encoding" "Z", Cond.methodLink RX3 112 yX3_setLow]
def wsX3_risc_r2 : List Cond := [Cond.instanceMethod yX3_setLow, Cond.selects RX3 yX3_setLow yX3_setLow, Cond.code yX3_setLow cX3_setLow 5 none, Cond.methodLink RX3 81 yX3_change, Cond.instanceMethod yX3_change, Cond.selects RX3 yX3_change yX3_change, Cond.code yX3_change cX3_change 4 none, Cond.methodLink RX3 88 yX3_give, Cond.instanceMethod yX3_give, Cond.selects RX3 yX3_give yX3_give, Cond.code yX3_give cX3_give 4 none, Cond.fieldLink RX3 44 "BranchFiltersModel" "next" "[I", Cond.fieldLink RX3 85 "BranchFiltersModel" "nextMany" "I", Cond.fieldLink RX3 23 "BranchFiltersModel" "heldMany" "[I"]
def wsX3_risc : List Cond := .code yX3_risc cX3_risc 6 none :: ((wsX3_risc_r1 ++ wsX3_risc_r2) ++ wsX30)
def wsX3_isEnd : List Cond := .code yX3_isEnd cX3_isEnd 1 (some .boolean) :: ([])
def wsX3_jump_r1 : List Cond := [Cond.fieldLink RX3 38 "BranchFiltersModel" "last" "[I", Cond.fieldLink RX3 35 "BranchFiltersModel" "mask" "[I", Cond.fieldLink RX3 32 "BranchFiltersModel" "put" "[I", Cond.methodLink RX3 77 yX3_at, Cond.instanceMethod yX3_at, Cond.selects RX3 yX3_at yX3_at, Cond.initialized RX3, Cond.code yX3_at cX3_at 3 (some .int), Cond.fieldLink RX3 20 "BranchFiltersModel" "held" "[I", Cond.methodLink RX3 88 yX3_give, Cond.instanceMethod yX3_give, Cond.selects RX3 yX3_give yX3_give, Cond.code yX3_give cX3_give 4 none, Cond.fieldLink RX3 44 "BranchFiltersModel" "next" "[I", Cond.fieldLink RX3 85 "BranchFiltersModel" "nextMany" "I", Cond.fieldLink RX3 23 "BranchFiltersModel" "heldMany" "[I", Cond.fieldLink RX3 29 "BranchFiltersModel" "given" "[I", Cond.methodLink RX3 81 yX3_change, Cond.instanceMethod yX3_change, Cond.selects RX3 yX3_change yX3_change, Cond.code yX3_change cX3_change 4 none, Cond.methodLink RX3 92 yX3_place, Cond.instanceMethod yX3_place, Cond.selects RX3 yX3_place yX3_place]
def wsX3_jump_r2 : List Cond := [Cond.code yX3_place cX3_place 2 (some .int), Cond.fieldLink RX3 66 "BranchFiltersModel" "start" "I", Cond.methodLink RX3 116 yX3_isEnd, Cond.static yX3_isEnd, Cond.code yX3_isEnd cX3_isEnd 1 (some .boolean), Cond.methodLink RX3 109 yX3_low, Cond.instanceMethod yX3_low, Cond.selects RX3 yX3_low yX3_low, Cond.code yX3_low cX3_low 3 (some .int), Cond.methodLink RX3 96 yX3_moved, Cond.instanceMethod yX3_moved, Cond.selects RX3 yX3_moved yX3_moved, Cond.code yX3_moved cX3_moved 3 (some .int), Cond.fieldLink RX3 16 "BranchFiltersModel" "encoding" "Z"]
def wsX3_jump : List Cond := .code yX3_jump cX3_jump 10 none :: ((wsX3_jump_r1 ++ wsX3_jump_r2) ++ wsX30)
def wsX3_work_r1 : List Cond := [Cond.fieldLink RX3 7 "BranchFiltersModel" "kind" "[I", Cond.methodLink RX3 88 yX3_give, Cond.instanceMethod yX3_give, Cond.selects RX3 yX3_give yX3_give, Cond.initialized RX3, Cond.code yX3_give cX3_give 4 none, Cond.fieldLink RX3 44 "BranchFiltersModel" "next" "[I", Cond.fieldLink RX3 85 "BranchFiltersModel" "nextMany" "I", Cond.fieldLink RX3 23 "BranchFiltersModel" "heldMany" "[I", Cond.fieldLink RX3 29 "BranchFiltersModel" "given" "[I", Cond.methodLink RX3 77 yX3_at, Cond.instanceMethod yX3_at, Cond.selects RX3 yX3_at yX3_at, Cond.code yX3_at cX3_at 3 (some .int), Cond.fieldLink RX3 20 "BranchFiltersModel" "held" "[I", Cond.methodLink RX3 81 yX3_change, Cond.instanceMethod yX3_change, Cond.selects RX3 yX3_change yX3_change, Cond.code yX3_change cX3_change 4 none, Cond.methodLink RX3 119 yX3_delta, Cond.instanceMethod yX3_delta, Cond.selects RX3 yX3_delta yX3_delta, Cond.code yX3_delta cX3_delta 6 none, Cond.fieldLink RX3 26 "BranchFiltersModel" "past" "[I"]
def wsX3_work_r2 : List Cond := [Cond.fieldLink RX3 13 "BranchFiltersModel" "distance" "[I", Cond.fieldLink RX3 16 "BranchFiltersModel" "encoding" "Z", Cond.methodLink RX3 123 yX3_jump, Cond.instanceMethod yX3_jump, Cond.selects RX3 yX3_jump yX3_jump, Cond.code yX3_jump cX3_jump 10 none, Cond.fieldLink RX3 38 "BranchFiltersModel" "last" "[I", Cond.fieldLink RX3 35 "BranchFiltersModel" "mask" "[I", Cond.fieldLink RX3 32 "BranchFiltersModel" "put" "[I", Cond.methodLink RX3 92 yX3_place, Cond.instanceMethod yX3_place, Cond.selects RX3 yX3_place yX3_place, Cond.code yX3_place cX3_place 2 (some .int), Cond.fieldLink RX3 66 "BranchFiltersModel" "start" "I", Cond.methodLink RX3 116 yX3_isEnd, Cond.static yX3_isEnd, Cond.code yX3_isEnd cX3_isEnd 1 (some .boolean), Cond.methodLink RX3 109 yX3_low, Cond.instanceMethod yX3_low, Cond.selects RX3 yX3_low yX3_low, Cond.code yX3_low cX3_low 3 (some .int), Cond.methodLink RX3 96 yX3_moved, Cond.instanceMethod yX3_moved, Cond.selects RX3 yX3_moved yX3_moved]
def wsX3_work_r3 : List Cond := [Cond.code yX3_moved cX3_moved 3 (some .int), Cond.methodLink RX3 126 yX3_arm, Cond.instanceMethod yX3_arm, Cond.selects RX3 yX3_arm yX3_arm, Cond.code yX3_arm cX3_arm 3 none, Cond.methodLink RX3 129 yX3_thumb, Cond.instanceMethod yX3_thumb, Cond.selects RX3 yX3_thumb yX3_thumb, Cond.code yX3_thumb cX3_thumb 3 none, Cond.methodLink RX3 132 yX3_power, Cond.instanceMethod yX3_power, Cond.selects RX3 yX3_power yX3_power, Cond.code yX3_power cX3_power 4 none, Cond.constant RX3 102 (67108860), Cond.constant RX3 103 (-67108861), Cond.methodLink RX3 99 yX3_high, Cond.instanceMethod yX3_high, Cond.selects RX3 yX3_high yX3_high, Cond.code yX3_high cX3_high 3 (some .int), Cond.methodLink RX3 104 yX3_setHigh, Cond.instanceMethod yX3_setHigh, Cond.selects RX3 yX3_setHigh yX3_setHigh, Cond.code yX3_setHigh cX3_setHigh 5 none, Cond.methodLink RX3 135 yX3_sparc]
end
section
def wsX3_work_r4 : List Cond := [Cond.instanceMethod yX3_sparc, Cond.selects RX3 yX3_sparc yX3_sparc, Cond.code yX3_sparc cX3_sparc 5 none, Cond.constant RX3 107 (1073741824), Cond.constant RX3 108 (4194303), Cond.methodLink RX3 138 yX3_risc, Cond.instanceMethod yX3_risc, Cond.selects RX3 yX3_risc yX3_risc, Cond.code yX3_risc cX3_risc 6 none, Cond.constant RX3 115 (1048575), Cond.methodLink RX3 112 yX3_setLow, Cond.instanceMethod yX3_setLow, Cond.selects RX3 yX3_setLow yX3_setLow, Cond.code yX3_setLow cX3_setLow 5 none]
def wsX3_work : List Cond := .code yX3_work cX3_work 2 none :: ((wsX3_work_r1 ++ (wsX3_work_r2 ++ (wsX3_work_r3 ++ wsX3_work_r4))) ++ wsX30)
def wsX3_goThrough_r1 : List Cond := [Cond.fieldLink RX3 16 "BranchFiltersModel" "encoding" "Z", Cond.fieldLink RX3 85 "BranchFiltersModel" "nextMany" "I", Cond.fieldLink RX3 141 "BranchFiltersModel" "inMany" "I", Cond.fieldLink RX3 23 "BranchFiltersModel" "heldMany" "[I", Cond.fieldLink RX3 41 "BranchFiltersModel" "in" "[I", Cond.fieldLink RX3 7 "BranchFiltersModel" "kind" "[I", Cond.fieldLink RX3 44 "BranchFiltersModel" "next" "[I", Cond.fieldLink RX3 47 "BranchFiltersModel" "out" "[I", Cond.fieldLink RX3 63 "BranchFiltersModel" "outMany" "I", Cond.methodLink RX3 81 yX3_change, Cond.instanceMethod yX3_change, Cond.selects RX3 yX3_change yX3_change, Cond.initialized RX3, Cond.code yX3_change cX3_change 4 none, Cond.fieldLink RX3 20 "BranchFiltersModel" "held" "[I", Cond.methodLink RX3 144 yX3_needs, Cond.static yX3_needs, Cond.code yX3_needs cX3_needs 1 (some .int), Cond.methodLink RX3 147 yX3_work, Cond.instanceMethod yX3_work, Cond.selects RX3 yX3_work yX3_work, Cond.code yX3_work cX3_work 2 none, Cond.methodLink RX3 88 yX3_give, Cond.instanceMethod yX3_give]
def wsX3_goThrough_r2 : List Cond := [Cond.selects RX3 yX3_give yX3_give, Cond.code yX3_give cX3_give 4 none, Cond.fieldLink RX3 29 "BranchFiltersModel" "given" "[I", Cond.methodLink RX3 77 yX3_at, Cond.instanceMethod yX3_at, Cond.selects RX3 yX3_at yX3_at, Cond.code yX3_at cX3_at 3 (some .int), Cond.methodLink RX3 119 yX3_delta, Cond.instanceMethod yX3_delta, Cond.selects RX3 yX3_delta yX3_delta, Cond.code yX3_delta cX3_delta 6 none, Cond.fieldLink RX3 26 "BranchFiltersModel" "past" "[I", Cond.fieldLink RX3 13 "BranchFiltersModel" "distance" "[I", Cond.methodLink RX3 123 yX3_jump, Cond.instanceMethod yX3_jump, Cond.selects RX3 yX3_jump yX3_jump, Cond.code yX3_jump cX3_jump 10 none, Cond.fieldLink RX3 38 "BranchFiltersModel" "last" "[I", Cond.fieldLink RX3 35 "BranchFiltersModel" "mask" "[I", Cond.fieldLink RX3 32 "BranchFiltersModel" "put" "[I", Cond.methodLink RX3 92 yX3_place, Cond.instanceMethod yX3_place, Cond.selects RX3 yX3_place yX3_place, Cond.code yX3_place cX3_place 2 (some .int)]
def wsX3_goThrough_r3 : List Cond := [Cond.fieldLink RX3 66 "BranchFiltersModel" "start" "I", Cond.methodLink RX3 116 yX3_isEnd, Cond.static yX3_isEnd, Cond.code yX3_isEnd cX3_isEnd 1 (some .boolean), Cond.methodLink RX3 109 yX3_low, Cond.instanceMethod yX3_low, Cond.selects RX3 yX3_low yX3_low, Cond.code yX3_low cX3_low 3 (some .int), Cond.methodLink RX3 96 yX3_moved, Cond.instanceMethod yX3_moved, Cond.selects RX3 yX3_moved yX3_moved, Cond.code yX3_moved cX3_moved 3 (some .int), Cond.methodLink RX3 126 yX3_arm, Cond.instanceMethod yX3_arm, Cond.selects RX3 yX3_arm yX3_arm, Cond.code yX3_arm cX3_arm 3 none, Cond.methodLink RX3 129 yX3_thumb, Cond.instanceMethod yX3_thumb, Cond.selects RX3 yX3_thumb yX3_thumb, Cond.code yX3_thumb cX3_thumb 3 none, Cond.methodLink RX3 132 yX3_power, Cond.instanceMethod yX3_power, Cond.selects RX3 yX3_power yX3_power, Cond.code yX3_power cX3_power 4 none]
def wsX3_goThrough_r4 : List Cond := [Cond.constant RX3 102 (67108860), Cond.constant RX3 103 (-67108861), Cond.methodLink RX3 99 yX3_high, Cond.instanceMethod yX3_high, Cond.selects RX3 yX3_high yX3_high, Cond.code yX3_high cX3_high 3 (some .int), Cond.methodLink RX3 104 yX3_setHigh, Cond.instanceMethod yX3_setHigh, Cond.selects RX3 yX3_setHigh yX3_setHigh, Cond.code yX3_setHigh cX3_setHigh 5 none, Cond.methodLink RX3 135 yX3_sparc, Cond.instanceMethod yX3_sparc, Cond.selects RX3 yX3_sparc yX3_sparc, Cond.code yX3_sparc cX3_sparc 5 none, Cond.constant RX3 107 (1073741824), Cond.constant RX3 108 (4194303), Cond.methodLink RX3 138 yX3_risc, Cond.instanceMethod yX3_risc, Cond.selects RX3 yX3_risc yX3_risc, Cond.code yX3_risc cX3_risc 6 none, Cond.constant RX3 115 (1048575), Cond.methodLink RX3 112 yX3_setLow, Cond.instanceMethod yX3_setLow, Cond.selects RX3 yX3_setLow yX3_setLow]
def wsX3_goThrough_r5 : List Cond := [Cond.code yX3_setLow cX3_setLow 5 none]
def wsX3_goThrough : List Cond := .code yX3_goThrough cX3_goThrough 5 none :: ((wsX3_goThrough_r1 ++ (wsX3_goThrough_r2 ++ (wsX3_goThrough_r3 ++ (wsX3_goThrough_r4 ++ wsX3_goThrough_r5)))) ++ wsX30)
def wsX3_feed_r1 : List Cond := [Cond.fieldLink RX3 57 "BranchFiltersModel" "came" "I", Cond.fieldLink RX3 60 "BranchFiltersModel" "isFinished" "Z", Cond.fieldLink RX3 141 "BranchFiltersModel" "inMany" "I", Cond.fieldLink RX3 41 "BranchFiltersModel" "in" "[I", Cond.fieldLink RX3 63 "BranchFiltersModel" "outMany" "I", Cond.methodLink RX3 69 yX3_isIn, Cond.static yX3_isIn, Cond.initialized RX3, Cond.code yX3_isIn cX3_isIn 3 (some .boolean), Cond.methodLink RX3 73 yX3_refused, Cond.instanceMethod yX3_refused, Cond.selects RX3 yX3_refused yX3_refused, Cond.code yX3_refused cX3_refused 2 (some .boolean), Cond.fieldLink RX3 53 "BranchFiltersModel" "fault" "I", Cond.methodLink RX3 150 yX3_goThrough, Cond.instanceMethod yX3_goThrough, Cond.selects RX3 yX3_goThrough yX3_goThrough, Cond.code yX3_goThrough cX3_goThrough 5 none, Cond.fieldLink RX3 16 "BranchFiltersModel" "encoding" "Z", Cond.fieldLink RX3 85 "BranchFiltersModel" "nextMany" "I", Cond.fieldLink RX3 23 "BranchFiltersModel" "heldMany" "[I", Cond.fieldLink RX3 7 "BranchFiltersModel" "kind" "[I", Cond.fieldLink RX3 44 "BranchFiltersModel" "next" "[I", Cond.fieldLink RX3 47 "BranchFiltersModel" "out" "[I"]
def wsX3_feed_r2 : List Cond := [Cond.methodLink RX3 81 yX3_change, Cond.instanceMethod yX3_change, Cond.selects RX3 yX3_change yX3_change, Cond.code yX3_change cX3_change 4 none, Cond.fieldLink RX3 20 "BranchFiltersModel" "held" "[I", Cond.methodLink RX3 144 yX3_needs, Cond.static yX3_needs, Cond.code yX3_needs cX3_needs 1 (some .int), Cond.methodLink RX3 147 yX3_work, Cond.instanceMethod yX3_work, Cond.selects RX3 yX3_work yX3_work, Cond.code yX3_work cX3_work 2 none, Cond.methodLink RX3 88 yX3_give, Cond.instanceMethod yX3_give, Cond.selects RX3 yX3_give yX3_give, Cond.code yX3_give cX3_give 4 none, Cond.fieldLink RX3 29 "BranchFiltersModel" "given" "[I", Cond.methodLink RX3 77 yX3_at, Cond.instanceMethod yX3_at, Cond.selects RX3 yX3_at yX3_at, Cond.code yX3_at cX3_at 3 (some .int), Cond.methodLink RX3 119 yX3_delta, Cond.instanceMethod yX3_delta, Cond.selects RX3 yX3_delta yX3_delta]
def wsX3_feed_r3 : List Cond := [Cond.code yX3_delta cX3_delta 6 none, Cond.fieldLink RX3 26 "BranchFiltersModel" "past" "[I", Cond.fieldLink RX3 13 "BranchFiltersModel" "distance" "[I", Cond.methodLink RX3 123 yX3_jump, Cond.instanceMethod yX3_jump, Cond.selects RX3 yX3_jump yX3_jump, Cond.code yX3_jump cX3_jump 10 none, Cond.fieldLink RX3 38 "BranchFiltersModel" "last" "[I", Cond.fieldLink RX3 35 "BranchFiltersModel" "mask" "[I", Cond.fieldLink RX3 32 "BranchFiltersModel" "put" "[I", Cond.methodLink RX3 92 yX3_place, Cond.instanceMethod yX3_place, Cond.selects RX3 yX3_place yX3_place, Cond.code yX3_place cX3_place 2 (some .int), Cond.fieldLink RX3 66 "BranchFiltersModel" "start" "I", Cond.methodLink RX3 116 yX3_isEnd, Cond.static yX3_isEnd, Cond.code yX3_isEnd cX3_isEnd 1 (some .boolean), Cond.methodLink RX3 109 yX3_low, Cond.instanceMethod yX3_low, Cond.selects RX3 yX3_low yX3_low, Cond.code yX3_low cX3_low 3 (some .int), Cond.methodLink RX3 96 yX3_moved, Cond.instanceMethod yX3_moved]
def wsX3_feed_r4 : List Cond := [Cond.selects RX3 yX3_moved yX3_moved, Cond.code yX3_moved cX3_moved 3 (some .int), Cond.methodLink RX3 126 yX3_arm, Cond.instanceMethod yX3_arm, Cond.selects RX3 yX3_arm yX3_arm, Cond.code yX3_arm cX3_arm 3 none, Cond.methodLink RX3 129 yX3_thumb, Cond.instanceMethod yX3_thumb, Cond.selects RX3 yX3_thumb yX3_thumb, Cond.code yX3_thumb cX3_thumb 3 none, Cond.methodLink RX3 132 yX3_power, Cond.instanceMethod yX3_power, Cond.selects RX3 yX3_power yX3_power, Cond.code yX3_power cX3_power 4 none, Cond.constant RX3 102 (67108860), Cond.constant RX3 103 (-67108861), Cond.methodLink RX3 99 yX3_high, Cond.instanceMethod yX3_high, Cond.selects RX3 yX3_high yX3_high, Cond.code yX3_high cX3_high 3 (some .int), Cond.methodLink RX3 104 yX3_setHigh, Cond.instanceMethod yX3_setHigh, Cond.selects RX3 yX3_setHigh yX3_setHigh, Cond.code yX3_setHigh cX3_setHigh 5 none]
def wsX3_feed_r5 : List Cond := [Cond.methodLink RX3 135 yX3_sparc, Cond.instanceMethod yX3_sparc, Cond.selects RX3 yX3_sparc yX3_sparc, Cond.code yX3_sparc cX3_sparc 5 none, Cond.constant RX3 107 (1073741824), Cond.constant RX3 108 (4194303), Cond.methodLink RX3 138 yX3_risc, Cond.instanceMethod yX3_risc, Cond.selects RX3 yX3_risc yX3_risc, Cond.code yX3_risc cX3_risc 6 none, Cond.constant RX3 115 (1048575), Cond.methodLink RX3 112 yX3_setLow, Cond.instanceMethod yX3_setLow, Cond.selects RX3 yX3_setLow yX3_setLow, Cond.code yX3_setLow cX3_setLow 5 none]
def wsX3_feed : List Cond := .code yX3_feed cX3_feed 8 (some .int) :: ((wsX3_feed_r1 ++ (wsX3_feed_r2 ++ (wsX3_feed_r3 ++ (wsX3_feed_r4 ++ wsX3_feed_r5)))) ++ wsX30)
def wsX3_finish_r1 : List Cond := [Cond.fieldLink RX3 60 "BranchFiltersModel" "isFinished" "Z", Cond.fieldLink RX3 141 "BranchFiltersModel" "inMany" "I", Cond.fieldLink RX3 63 "BranchFiltersModel" "outMany" "I", Cond.methodLink RX3 73 yX3_refused, Cond.instanceMethod yX3_refused, Cond.selects RX3 yX3_refused yX3_refused, Cond.initialized RX3, Cond.code yX3_refused cX3_refused 2 (some .boolean), Cond.fieldLink RX3 53 "BranchFiltersModel" "fault" "I", Cond.methodLink RX3 150 yX3_goThrough, Cond.instanceMethod yX3_goThrough, Cond.selects RX3 yX3_goThrough yX3_goThrough, Cond.code yX3_goThrough cX3_goThrough 5 none, Cond.fieldLink RX3 16 "BranchFiltersModel" "encoding" "Z", Cond.fieldLink RX3 85 "BranchFiltersModel" "nextMany" "I", Cond.fieldLink RX3 23 "BranchFiltersModel" "heldMany" "[I", Cond.fieldLink RX3 41 "BranchFiltersModel" "in" "[I", Cond.fieldLink RX3 7 "BranchFiltersModel" "kind" "[I", Cond.fieldLink RX3 44 "BranchFiltersModel" "next" "[I", Cond.fieldLink RX3 47 "BranchFiltersModel" "out" "[I", Cond.methodLink RX3 81 yX3_change, Cond.instanceMethod yX3_change, Cond.selects RX3 yX3_change yX3_change, Cond.code yX3_change cX3_change 4 none]
def wsX3_finish_r2 : List Cond := [Cond.fieldLink RX3 20 "BranchFiltersModel" "held" "[I", Cond.methodLink RX3 144 yX3_needs, Cond.static yX3_needs, Cond.code yX3_needs cX3_needs 1 (some .int), Cond.methodLink RX3 147 yX3_work, Cond.instanceMethod yX3_work, Cond.selects RX3 yX3_work yX3_work, Cond.code yX3_work cX3_work 2 none, Cond.methodLink RX3 88 yX3_give, Cond.instanceMethod yX3_give, Cond.selects RX3 yX3_give yX3_give, Cond.code yX3_give cX3_give 4 none, Cond.fieldLink RX3 29 "BranchFiltersModel" "given" "[I", Cond.methodLink RX3 77 yX3_at, Cond.instanceMethod yX3_at, Cond.selects RX3 yX3_at yX3_at, Cond.code yX3_at cX3_at 3 (some .int), Cond.methodLink RX3 119 yX3_delta, Cond.instanceMethod yX3_delta, Cond.selects RX3 yX3_delta yX3_delta, Cond.code yX3_delta cX3_delta 6 none, Cond.fieldLink RX3 26 "BranchFiltersModel" "past" "[I", Cond.fieldLink RX3 13 "BranchFiltersModel" "distance" "[I", Cond.methodLink RX3 123 yX3_jump]
def wsX3_finish_r3 : List Cond := [Cond.instanceMethod yX3_jump, Cond.selects RX3 yX3_jump yX3_jump, Cond.code yX3_jump cX3_jump 10 none, Cond.fieldLink RX3 38 "BranchFiltersModel" "last" "[I", Cond.fieldLink RX3 35 "BranchFiltersModel" "mask" "[I", Cond.fieldLink RX3 32 "BranchFiltersModel" "put" "[I", Cond.methodLink RX3 92 yX3_place, Cond.instanceMethod yX3_place, Cond.selects RX3 yX3_place yX3_place, Cond.code yX3_place cX3_place 2 (some .int), Cond.fieldLink RX3 66 "BranchFiltersModel" "start" "I", Cond.methodLink RX3 116 yX3_isEnd, Cond.static yX3_isEnd, Cond.code yX3_isEnd cX3_isEnd 1 (some .boolean), Cond.methodLink RX3 109 yX3_low, Cond.instanceMethod yX3_low, Cond.selects RX3 yX3_low yX3_low, Cond.code yX3_low cX3_low 3 (some .int), Cond.methodLink RX3 96 yX3_moved, Cond.instanceMethod yX3_moved, Cond.selects RX3 yX3_moved yX3_moved, Cond.code yX3_moved cX3_moved 3 (some .int), Cond.methodLink RX3 126 yX3_arm, Cond.instanceMethod yX3_arm]
def wsX3_finish_r4 : List Cond := [Cond.selects RX3 yX3_arm yX3_arm, Cond.code yX3_arm cX3_arm 3 none, Cond.methodLink RX3 129 yX3_thumb, Cond.instanceMethod yX3_thumb, Cond.selects RX3 yX3_thumb yX3_thumb, Cond.code yX3_thumb cX3_thumb 3 none, Cond.methodLink RX3 132 yX3_power, Cond.instanceMethod yX3_power, Cond.selects RX3 yX3_power yX3_power, Cond.code yX3_power cX3_power 4 none, Cond.constant RX3 102 (67108860), Cond.constant RX3 103 (-67108861), Cond.methodLink RX3 99 yX3_high, Cond.instanceMethod yX3_high, Cond.selects RX3 yX3_high yX3_high, Cond.code yX3_high cX3_high 3 (some .int), Cond.methodLink RX3 104 yX3_setHigh, Cond.instanceMethod yX3_setHigh, Cond.selects RX3 yX3_setHigh yX3_setHigh, Cond.code yX3_setHigh cX3_setHigh 5 none, Cond.methodLink RX3 135 yX3_sparc, Cond.instanceMethod yX3_sparc, Cond.selects RX3 yX3_sparc yX3_sparc, Cond.code yX3_sparc cX3_sparc 5 none]
def wsX3_finish_r5 : List Cond := [Cond.constant RX3 107 (1073741824), Cond.constant RX3 108 (4194303), Cond.methodLink RX3 138 yX3_risc, Cond.instanceMethod yX3_risc, Cond.selects RX3 yX3_risc yX3_risc, Cond.code yX3_risc cX3_risc 6 none, Cond.constant RX3 115 (1048575), Cond.methodLink RX3 112 yX3_setLow, Cond.instanceMethod yX3_setLow, Cond.selects RX3 yX3_setLow yX3_setLow, Cond.code yX3_setLow cX3_setLow 5 none]
def wsX3_finish : List Cond := .code yX3_finish cX3_finish 1 (some .int) :: ((wsX3_finish_r1 ++ (wsX3_finish_r2 ++ (wsX3_finish_r3 ++ (wsX3_finish_r4 ++ wsX3_finish_r5)))) ++ wsX30)
def wsX3_output : List Cond := .code yX3_output cX3_output 2 (some .int) :: ([.fieldLink RX3 53 "BranchFiltersModel" "fault" "I", .fieldLink RX3 63 "BranchFiltersModel" "outMany" "I", .fieldLink RX3 47 "BranchFiltersModel" "out" "[I", .methodLink RX3 69 yX3_isIn, .static yX3_isIn, .initialized RX3, .code yX3_isIn cX3_isIn 3 (some .boolean)] ++ wsX30)
def wsX3_count : List Cond := .code yX3_count cX3_count 3 (some .int) :: ([.fieldLink RX3 7 "BranchFiltersModel" "kind" "[I", .fieldLink RX3 13 "BranchFiltersModel" "distance" "[I", .fieldLink RX3 23 "BranchFiltersModel" "heldMany" "[I", .fieldLink RX3 29 "BranchFiltersModel" "given" "[I", .fieldLink RX3 32 "BranchFiltersModel" "put" "[I", .fieldLink RX3 35 "BranchFiltersModel" "mask" "[I", .methodLink RX3 69 yX3_isIn, .static yX3_isIn, .initialized RX3, .code yX3_isIn cX3_isIn 3 (some .boolean), .methodLink RX3 73 yX3_refused, .instanceMethod yX3_refused, .selects RX3 yX3_refused yX3_refused, .code yX3_refused cX3_refused 2 (some .boolean), .fieldLink RX3 53 "BranchFiltersModel" "fault" "I"] ++ wsX30)
def wsX3_word : List Cond := .code yX3_word cX3_word 2 (some .int) :: ([.fieldLink RX3 63 "BranchFiltersModel" "outMany" "I", .fieldLink RX3 47 "BranchFiltersModel" "out" "[I", .methodLink RX3 73 yX3_refused, .instanceMethod yX3_refused, .selects RX3 yX3_refused yX3_refused, .initialized RX3, .code yX3_refused cX3_refused 2 (some .boolean), .fieldLink RX3 53 "BranchFiltersModel" "fault" "I"] ++ wsX30)
def wsL_filter_r1 : List Cond := [Cond.classLink RL 13 "java/lang/IllegalArgumentException", Cond.methodLink RL 7 yX2_filter, Cond.instanceMethod yX2_filter, Cond.selects RX2 yX2_filter yX2_filter, Cond.initialized RX2, Cond.code yX2_filter cX2_filter 4 none, Cond.classLink RX2 32 "java/lang/IllegalArgumentException", Cond.initialized "java/lang/IllegalArgumentException", Cond.fieldLink RX2 11 "BranchFilters" "chain" "[LBranchFilters$Filter;", Cond.methodLink RX2 43 yX0_become, Cond.instanceMethod yX0_become, Cond.selects RX0 yX0_become yX0_become, Cond.initialized RX0, Cond.code yX0_become cX0_become 3 none, Cond.fieldLink RX0 32 "BranchFilters$Filter" "kind" "I", Cond.fieldLink RX0 24 "BranchFilters$Filter" "distance" "I", Cond.methodLink RX2 47 yX2_beginAnew, Cond.instanceMethod yX2_beginAnew, Cond.selects RX2 yX2_beginAnew yX2_beginAnew, Cond.code yX2_beginAnew cX2_beginAnew 2 none, Cond.fieldLink RX2 25 "BranchFilters" "result" "LBranchFilters$Row;", Cond.fieldLink RX2 56 "BranchFilters" "finished" "Z", Cond.fieldLink RX2 63 "BranchFilters" "came" "I", Cond.fieldLink RX2 50 "BranchFilters" "start" "I"]
def wsL_filter_r2 : List Cond := [Cond.fieldLink RX2 28 "BranchFilters" "encoding" "Z", Cond.methodLink RX2 111 yX1_clear, Cond.instanceMethod yX1_clear, Cond.selects RX1 yX1_clear yX1_clear, Cond.initialized RX1, Cond.code yX1_clear cX1_clear 1 none, Cond.fieldLink RX1 13 "BranchFilters$Row" "size" "I", Cond.methodLink RX2 114 yX0_restart, Cond.instanceMethod yX0_restart, Cond.selects RX0 yX0_restart yX0_restart, Cond.code yX0_restart cX0_restart 4 none, Cond.fieldLink RX0 14 "BranchFilters$Filter" "held" "LBranchFilters$Row;", Cond.fieldLink RX0 20 "BranchFilters$Filter" "past" "[I", Cond.fieldLink RX0 38 "BranchFilters$Filter" "encoding" "Z", Cond.fieldLink RX0 42 "BranchFilters$Filter" "place" "I", Cond.fieldLink RX0 45 "BranchFilters$Filter" "given" "I", Cond.fieldLink RX0 48 "BranchFilters$Filter" "replaced" "I", Cond.fieldLink RX0 51 "BranchFilters$Filter" "mask" "I", Cond.fieldLink RX0 54 "BranchFilters$Filter" "last" "I", Cond.methodLink RX0 35 yX1_clear]
def wsL_filter : List Cond := .codeWith yL_filter cL_filter 5 (some .int) [(0, 7, 10, 13)] :: ((wsL_filter_r1 ++ wsL_filter_r2) ++ wsX20 ++ wsX00 ++ wsX10 ++ (vx_atS RX2 36 "java/lang/IllegalArgumentException" ["java/lang/RuntimeException", "java/lang/Exception"]).filter goodWord)
def wsL_feed_r1 : List Cond := [Cond.classLink RL 13 "java/lang/IllegalArgumentException", Cond.classLink RL 19 "java/lang/IllegalStateException", Cond.methodLink RL 15 yX2_feed, Cond.instanceMethod yX2_feed, Cond.selects RX2 yX2_feed yX2_feed, Cond.initialized RX2, Cond.code yX2_feed cX2_feed 8 (some .int), Cond.classLink RX2 32 "java/lang/IllegalArgumentException", Cond.initialized "java/lang/IllegalArgumentException", Cond.classLink RX2 59 "java/lang/IllegalStateException", Cond.initialized "java/lang/IllegalStateException", Cond.fieldLink RX2 56 "BranchFilters" "finished" "Z", Cond.fieldLink RX2 63 "BranchFilters" "came" "I", Cond.fieldLink RX2 21 "BranchFilters" "moving" "LBranchFilters$Row;", Cond.fieldLink RX2 25 "BranchFilters" "result" "LBranchFilters$Row;", Cond.methodLink RX2 68 yX1_add, Cond.instanceMethod yX1_add, Cond.selects RX1 yX1_add yX1_add, Cond.initialized RX1, Cond.code yX1_add cX1_add 2 none, Cond.fieldLink RX1 7 "BranchFilters$Row" "bytes" "[I", Cond.fieldLink RX1 13 "BranchFilters$Row" "size" "I", Cond.methodLink RX2 71 yX2_sendThroughChain, Cond.instanceMethod yX2_sendThroughChain]
def wsL_feed_r2 : List Cond := [Cond.selects RX2 yX2_sendThroughChain yX2_sendThroughChain, Cond.code yX2_sendThroughChain cX2_sendThroughChain 4 none, Cond.fieldLink RX2 11 "BranchFilters" "chain" "[LBranchFilters$Filter;", Cond.fieldLink RX2 28 "BranchFilters" "encoding" "Z", Cond.methodLink RX2 118 yX0_pass, Cond.instanceMethod yX0_pass, Cond.selects RX0 yX0_pass yX0_pass, Cond.initialized RX0, Cond.code yX0_pass cX0_pass 5 none, Cond.fieldLink RX0 14 "BranchFilters$Filter" "held" "LBranchFilters$Row;", Cond.fieldLink RX0 65 "BranchFilters$Filter" "here" "I", Cond.fieldLink RX0 68 "BranchFilters$Filter" "NEEDED" "[I", Cond.fieldLink RX0 32 "BranchFilters$Filter" "kind" "I", Cond.fieldLink RX0 42 "BranchFilters$Filter" "place" "I", Cond.fieldLink RX0 45 "BranchFilters$Filter" "given" "I", Cond.methodLink RX0 57 yX1_size, Cond.instanceMethod yX1_size, Cond.selects RX1 yX1_size yX1_size, Cond.code yX1_size cX1_size 1 (some .int), Cond.methodLink RX0 61 yX1_moveTo, Cond.instanceMethod yX1_moveTo, Cond.selects RX1 yX1_moveTo yX1_moveTo, Cond.code yX1_moveTo cX1_moveTo 3 none, Cond.methodLink RX1 17 arraycopyName]
def wsL_feed_r3 : List Cond := [Cond.native arraycopyName, Cond.static arraycopyName, Cond.initialized "java/lang/System", Cond.methodLink RX0 71 yX0_step, Cond.instanceMethod yX0_step, Cond.selects RX0 yX0_step yX0_step, Cond.code yX0_step cX0_step 1 (some .int), Cond.methodLink RX0 74 yX0_stepDelta, Cond.instanceMethod yX0_stepDelta, Cond.selects RX0 yX0_stepDelta yX0_stepDelta, Cond.code yX0_stepDelta cX0_stepDelta 4 (some .int), Cond.fieldLink RX0 20 "BranchFilters$Filter" "past" "[I", Cond.fieldLink RX0 24 "BranchFilters$Filter" "distance" "I", Cond.fieldLink RX0 38 "BranchFilters$Filter" "encoding" "Z", Cond.methodLink RX0 95 yX1_at, Cond.instanceMethod yX1_at, Cond.selects RX1 yX1_at yX1_at, Cond.code yX1_at cX1_at 2 (some .int), Cond.methodLink RX0 99 yX0_moved, Cond.instanceMethod yX0_moved, Cond.selects RX0 yX0_moved yX0_moved, Cond.code yX0_moved cX0_moved 3 (some .int), Cond.methodLink RX0 103 yX1_set, Cond.instanceMethod yX1_set]
def wsL_feed_r4 : List Cond := [Cond.selects RX1 yX1_set yX1_set, Cond.code yX1_set cX1_set 3 none, Cond.methodLink RX0 77 yX0_stepX86, Cond.instanceMethod yX0_stepX86, Cond.selects RX0 yX0_stepX86 yX0_stepX86, Cond.code yX0_stepX86 cX0_stepX86 4 (some .int), Cond.fieldLink RX0 51 "BranchFilters$Filter" "mask" "I", Cond.fieldLink RX0 48 "BranchFilters$Filter" "replaced" "I", Cond.methodLink RX0 135 yX0_ageMask, Cond.instanceMethod yX0_ageMask, Cond.selects RX0 yX0_ageMask yX0_ageMask, Cond.code yX0_ageMask cX0_ageMask 3 none, Cond.fieldLink RX0 54 "BranchFilters$Filter" "last" "I", Cond.methodLink RX0 138 yX0_isSignByte, Cond.static yX0_isSignByte, Cond.code yX0_isSignByte cX0_isSignByte 1 (some .boolean), Cond.methodLink RX0 142 yX0_maskAllows, Cond.instanceMethod yX0_maskAllows, Cond.selects RX0 yX0_maskAllows yX0_maskAllows, Cond.code yX0_maskAllows cX0_maskAllows 3 (some .boolean), Cond.methodLink RX0 107 yX1_lowestFirst, Cond.instanceMethod yX1_lowestFirst, Cond.selects RX1 yX1_lowestFirst yX1_lowestFirst, Cond.code yX1_lowestFirst cX1_lowestFirst 2 (some .int)]
def wsL_feed_r5 : List Cond := [Cond.methodLink RX0 146 yX0_x86Target, Cond.instanceMethod yX0_x86Target, Cond.selects RX0 yX0_x86Target yX0_x86Target, Cond.code yX0_x86Target cX0_x86Target 9 (some .int), Cond.methodLink RX0 112 yX1_setLowestFirst, Cond.instanceMethod yX1_setLowestFirst, Cond.selects RX1 yX1_setLowestFirst yX1_setLowestFirst, Cond.code yX1_setLowestFirst cX1_setLowestFirst 3 none, Cond.methodLink RX0 80 yX0_stepArm, Cond.instanceMethod yX0_stepArm, Cond.selects RX0 yX0_stepArm yX0_stepArm, Cond.code yX0_stepArm cX0_stepArm 4 (some .int), Cond.constant RX0 110 (16777215), Cond.constant RX0 111 (-352321536), Cond.methodLink RX0 83 yX0_stepThumb, Cond.instanceMethod yX0_stepThumb, Cond.selects RX0 yX0_stepThumb yX0_stepThumb, Cond.code yX0_stepThumb cX0_stepThumb 7 (some .int), Cond.methodLink RX0 86 yX0_stepPower, Cond.instanceMethod yX0_stepPower, Cond.selects RX0 yX0_stepPower yX0_stepPower, Cond.code yX0_stepPower cX0_stepPower 3 (some .int), Cond.constant RX0 118 (67108860), Cond.constant RX0 119 (-67108861)]
def wsL_feed_r6 : List Cond := [Cond.methodLink RX0 115 yX1_highestFirst, Cond.instanceMethod yX1_highestFirst, Cond.selects RX1 yX1_highestFirst yX1_highestFirst, Cond.code yX1_highestFirst cX1_highestFirst 2 (some .int), Cond.methodLink RX0 120 yX1_setHighestFirst, Cond.instanceMethod yX1_setHighestFirst, Cond.selects RX1 yX1_setHighestFirst yX1_setHighestFirst, Cond.code yX1_setHighestFirst cX1_setHighestFirst 3 none, Cond.methodLink RX0 89 yX0_stepSparc, Cond.instanceMethod yX0_stepSparc, Cond.selects RX0 yX0_stepSparc yX0_stepSparc, Cond.code yX0_stepSparc cX0_stepSparc 5 (some .int), Cond.constant RX0 123 (1069547520), Cond.constant RX0 124 (1073741824), Cond.constant RX0 125 (4194303), Cond.methodLink RX0 92 yX0_stepRisc, Cond.instanceMethod yX0_stepRisc, Cond.selects RX0 yX0_stepRisc yX0_stepRisc, Cond.code yX0_stepRisc cX0_stepRisc 4 (some .int), Cond.methodLink RX0 126 yX0_replaceRiscJump, Cond.instanceMethod yX0_replaceRiscJump, Cond.selects RX0 yX0_replaceRiscJump yX0_replaceRiscJump, Cond.code yX0_replaceRiscJump cX0_replaceRiscJump 5 none, Cond.constant RX0 133 (1044480)]
def wsL_feed_r7 : List Cond := [Cond.methodLink RX0 129 yX0_replaceRiscPair, Cond.instanceMethod yX0_replaceRiscPair, Cond.selects RX0 yX0_replaceRiscPair yX0_replaceRiscPair, Cond.code yX0_replaceRiscPair cX0_replaceRiscPair 7 none, Cond.constant RX0 134 (1048575), Cond.methodLink RX2 122 yX0_giveRest, Cond.instanceMethod yX0_giveRest, Cond.selects RX0 yX0_giveRest yX0_giveRest, Cond.code yX0_giveRest cX0_giveRest 3 none, Cond.methodLink RX2 75 yX1_size, Cond.methodLink RX2 125 yX1_moveTo]
def wsL_feed : List Cond := .codeWith yL_feed cL_feed 8 (some .int) [(0, 16, 19, 13), (0, 16, 23, 19)] :: ((wsL_feed_r1 ++ (wsL_feed_r2 ++ (wsL_feed_r3 ++ (wsL_feed_r4 ++ (wsL_feed_r5 ++ (wsL_feed_r6 ++ wsL_feed_r7)))))) ++ wsX20 ++ wsX10 ++ wsX00 ++ (vx_atS RX2 36 "java/lang/IllegalArgumentException" ["java/lang/RuntimeException", "java/lang/Exception"]).filter goodWord ++ (vx_atS RX2 62 "java/lang/IllegalStateException" ["java/lang/RuntimeException", "java/lang/Exception"]).filter goodWord)
def wsL_finish_r1 : List Cond := [Cond.classLink RL 19 "java/lang/IllegalStateException", Cond.methodLink RL 21 yX2_finish, Cond.instanceMethod yX2_finish, Cond.selects RX2 yX2_finish yX2_finish, Cond.initialized RX2, Cond.code yX2_finish cX2_finish 1 (some .int), Cond.classLink RX2 59 "java/lang/IllegalStateException", Cond.initialized "java/lang/IllegalStateException", Cond.fieldLink RX2 56 "BranchFilters" "finished" "Z", Cond.fieldLink RX2 25 "BranchFilters" "result" "LBranchFilters$Row;", Cond.methodLink RX2 71 yX2_sendThroughChain, Cond.instanceMethod yX2_sendThroughChain, Cond.selects RX2 yX2_sendThroughChain yX2_sendThroughChain, Cond.code yX2_sendThroughChain cX2_sendThroughChain 4 none, Cond.fieldLink RX2 11 "BranchFilters" "chain" "[LBranchFilters$Filter;", Cond.fieldLink RX2 28 "BranchFilters" "encoding" "Z", Cond.fieldLink RX2 21 "BranchFilters" "moving" "LBranchFilters$Row;", Cond.methodLink RX2 118 yX0_pass, Cond.instanceMethod yX0_pass, Cond.selects RX0 yX0_pass yX0_pass, Cond.initialized RX0, Cond.code yX0_pass cX0_pass 5 none, Cond.fieldLink RX0 14 "BranchFilters$Filter" "held" "LBranchFilters$Row;", Cond.fieldLink RX0 65 "BranchFilters$Filter" "here" "I"]
def wsL_finish_r2 : List Cond := [Cond.fieldLink RX0 68 "BranchFilters$Filter" "NEEDED" "[I", Cond.fieldLink RX0 32 "BranchFilters$Filter" "kind" "I", Cond.fieldLink RX0 42 "BranchFilters$Filter" "place" "I", Cond.fieldLink RX0 45 "BranchFilters$Filter" "given" "I", Cond.methodLink RX0 57 yX1_size, Cond.instanceMethod yX1_size, Cond.selects RX1 yX1_size yX1_size, Cond.initialized RX1, Cond.code yX1_size cX1_size 1 (some .int), Cond.fieldLink RX1 13 "BranchFilters$Row" "size" "I", Cond.methodLink RX0 61 yX1_moveTo, Cond.instanceMethod yX1_moveTo, Cond.selects RX1 yX1_moveTo yX1_moveTo, Cond.code yX1_moveTo cX1_moveTo 3 none, Cond.fieldLink RX1 7 "BranchFilters$Row" "bytes" "[I", Cond.methodLink RX1 17 arraycopyName, Cond.native arraycopyName, Cond.static arraycopyName, Cond.initialized "java/lang/System", Cond.methodLink RX0 71 yX0_step, Cond.instanceMethod yX0_step, Cond.selects RX0 yX0_step yX0_step, Cond.code yX0_step cX0_step 1 (some .int), Cond.methodLink RX0 74 yX0_stepDelta]
def wsL_finish_r3 : List Cond := [Cond.instanceMethod yX0_stepDelta, Cond.selects RX0 yX0_stepDelta yX0_stepDelta, Cond.code yX0_stepDelta cX0_stepDelta 4 (some .int), Cond.fieldLink RX0 20 "BranchFilters$Filter" "past" "[I", Cond.fieldLink RX0 24 "BranchFilters$Filter" "distance" "I", Cond.fieldLink RX0 38 "BranchFilters$Filter" "encoding" "Z", Cond.methodLink RX0 95 yX1_at, Cond.instanceMethod yX1_at, Cond.selects RX1 yX1_at yX1_at, Cond.code yX1_at cX1_at 2 (some .int), Cond.methodLink RX0 99 yX0_moved, Cond.instanceMethod yX0_moved, Cond.selects RX0 yX0_moved yX0_moved, Cond.code yX0_moved cX0_moved 3 (some .int), Cond.methodLink RX0 103 yX1_set, Cond.instanceMethod yX1_set, Cond.selects RX1 yX1_set yX1_set, Cond.code yX1_set cX1_set 3 none, Cond.methodLink RX0 77 yX0_stepX86, Cond.instanceMethod yX0_stepX86, Cond.selects RX0 yX0_stepX86 yX0_stepX86, Cond.code yX0_stepX86 cX0_stepX86 4 (some .int), Cond.fieldLink RX0 51 "BranchFilters$Filter" "mask" "I", Cond.fieldLink RX0 48 "BranchFilters$Filter" "replaced" "I"]
def wsL_finish_r4 : List Cond := [Cond.methodLink RX0 135 yX0_ageMask, Cond.instanceMethod yX0_ageMask, Cond.selects RX0 yX0_ageMask yX0_ageMask, Cond.code yX0_ageMask cX0_ageMask 3 none, Cond.fieldLink RX0 54 "BranchFilters$Filter" "last" "I", Cond.methodLink RX0 138 yX0_isSignByte, Cond.static yX0_isSignByte, Cond.code yX0_isSignByte cX0_isSignByte 1 (some .boolean), Cond.methodLink RX0 142 yX0_maskAllows, Cond.instanceMethod yX0_maskAllows, Cond.selects RX0 yX0_maskAllows yX0_maskAllows, Cond.code yX0_maskAllows cX0_maskAllows 3 (some .boolean), Cond.methodLink RX0 107 yX1_lowestFirst, Cond.instanceMethod yX1_lowestFirst, Cond.selects RX1 yX1_lowestFirst yX1_lowestFirst, Cond.code yX1_lowestFirst cX1_lowestFirst 2 (some .int), Cond.methodLink RX0 146 yX0_x86Target, Cond.instanceMethod yX0_x86Target, Cond.selects RX0 yX0_x86Target yX0_x86Target, Cond.code yX0_x86Target cX0_x86Target 9 (some .int), Cond.methodLink RX0 112 yX1_setLowestFirst, Cond.instanceMethod yX1_setLowestFirst, Cond.selects RX1 yX1_setLowestFirst yX1_setLowestFirst, Cond.code yX1_setLowestFirst cX1_setLowestFirst 3 none]
def wsL_finish_r5 : List Cond := [Cond.methodLink RX0 80 yX0_stepArm, Cond.instanceMethod yX0_stepArm, Cond.selects RX0 yX0_stepArm yX0_stepArm, Cond.code yX0_stepArm cX0_stepArm 4 (some .int), Cond.constant RX0 110 (16777215), Cond.constant RX0 111 (-352321536), Cond.methodLink RX0 83 yX0_stepThumb, Cond.instanceMethod yX0_stepThumb, Cond.selects RX0 yX0_stepThumb yX0_stepThumb, Cond.code yX0_stepThumb cX0_stepThumb 7 (some .int), Cond.methodLink RX0 86 yX0_stepPower, Cond.instanceMethod yX0_stepPower, Cond.selects RX0 yX0_stepPower yX0_stepPower, Cond.code yX0_stepPower cX0_stepPower 3 (some .int), Cond.constant RX0 118 (67108860), Cond.constant RX0 119 (-67108861), Cond.methodLink RX0 115 yX1_highestFirst, Cond.instanceMethod yX1_highestFirst, Cond.selects RX1 yX1_highestFirst yX1_highestFirst, Cond.code yX1_highestFirst cX1_highestFirst 2 (some .int), Cond.methodLink RX0 120 yX1_setHighestFirst, Cond.instanceMethod yX1_setHighestFirst, Cond.selects RX1 yX1_setHighestFirst yX1_setHighestFirst, Cond.code yX1_setHighestFirst cX1_setHighestFirst 3 none]
def wsL_finish_r6 : List Cond := [Cond.methodLink RX0 89 yX0_stepSparc, Cond.instanceMethod yX0_stepSparc, Cond.selects RX0 yX0_stepSparc yX0_stepSparc, Cond.code yX0_stepSparc cX0_stepSparc 5 (some .int), Cond.constant RX0 123 (1069547520), Cond.constant RX0 124 (1073741824), Cond.constant RX0 125 (4194303), Cond.methodLink RX0 92 yX0_stepRisc, Cond.instanceMethod yX0_stepRisc, Cond.selects RX0 yX0_stepRisc yX0_stepRisc, Cond.code yX0_stepRisc cX0_stepRisc 4 (some .int), Cond.methodLink RX0 126 yX0_replaceRiscJump, Cond.instanceMethod yX0_replaceRiscJump, Cond.selects RX0 yX0_replaceRiscJump yX0_replaceRiscJump, Cond.code yX0_replaceRiscJump cX0_replaceRiscJump 5 none, Cond.constant RX0 133 (1044480), Cond.methodLink RX0 129 yX0_replaceRiscPair, Cond.instanceMethod yX0_replaceRiscPair, Cond.selects RX0 yX0_replaceRiscPair yX0_replaceRiscPair, Cond.code yX0_replaceRiscPair cX0_replaceRiscPair 7 none, Cond.constant RX0 134 (1048575), Cond.methodLink RX2 122 yX0_giveRest, Cond.instanceMethod yX0_giveRest, Cond.selects RX0 yX0_giveRest yX0_giveRest]
def wsL_finish_r7 : List Cond := [Cond.code yX0_giveRest cX0_giveRest 3 none, Cond.methodLink RX2 75 yX1_size, Cond.methodLink RX2 125 yX1_moveTo]
def wsL_finish : List Cond := .codeWith yL_finish cL_finish 3 (some .int) [(0, 8, 11, 19)] :: ((wsL_finish_r1 ++ (wsL_finish_r2 ++ (wsL_finish_r3 ++ (wsL_finish_r4 ++ (wsL_finish_r5 ++ (wsL_finish_r6 ++ wsL_finish_r7)))))) ++ wsX20 ++ wsX00 ++ wsX10 ++ (vx_atS RX2 62 "java/lang/IllegalStateException" ["java/lang/RuntimeException", "java/lang/Exception"]).filter goodWord)
def wsL_count : List Cond := .codeWith yL_count cL_count 5 (some .int) [(0, 10, 13, 13)] :: ([.classLink RL 13 "java/lang/IllegalArgumentException", .methodLink RL 25 yX2_count, .instanceMethod yX2_count, .selects RX2 yX2_count yX2_count, .initialized RX2, .code yX2_count cX2_count 4 (some .int), .classLink RX2 32 "java/lang/IllegalArgumentException", .initialized "java/lang/IllegalArgumentException", .fieldLink RX2 11 "BranchFilters" "chain" "[LBranchFilters$Filter;", .methodLink RX2 75 yX1_size, .instanceMethod yX1_size, .selects RX1 yX1_size yX1_size, .initialized RX1, .code yX1_size cX1_size 1 (some .int), .fieldLink RX1 13 "BranchFilters$Row" "size" "I"] ++ wsX20 ++ wsX00 ++ wsX10 ++ (vx_atS RX2 36 "java/lang/IllegalArgumentException" ["java/lang/RuntimeException", "java/lang/Exception"]).filter goodWord)
def wsL_word : List Cond := .codeWith yL_word cL_word 4 (some .int) [(0, 9, 12, 33)] :: ([.classLink RL 33 "java/lang/IndexOutOfBoundsException", .methodLink RL 29 yX2_word, .instanceMethod yX2_word, .selects RX2 yX2_word yX2_word, .initialized RX2, .code yX2_word cX2_word 2 (some .int), .classLink RX2 103 "java/lang/IndexOutOfBoundsException", .initialized "java/lang/IndexOutOfBoundsException", .fieldLink RX2 25 "BranchFilters" "result" "LBranchFilters$Row;", .methodLink RX2 75 yX1_size, .instanceMethod yX1_size, .selects RX1 yX1_size yX1_size, .initialized RX1, .code yX1_size cX1_size 1 (some .int), .fieldLink RX1 13 "BranchFilters$Row" "size" "I", .methodLink RX2 108 yX1_lowestFirst, .instanceMethod yX1_lowestFirst, .selects RX1 yX1_lowestFirst yX1_lowestFirst, .code yX1_lowestFirst cX1_lowestFirst 2 (some .int), .fieldLink RX1 7 "BranchFilters$Row" "bytes" "[I"] ++ wsX20 ++ wsX10 ++ (vx_atS RX2 107 "java/lang/IndexOutOfBoundsException" ["java/lang/RuntimeException", "java/lang/Exception"]).filter goodWord)
def wsL_law0_r1 : List Cond := [Cond.classLink RL 8 RX2, Cond.instantiable RX2 7, Cond.initialized RX2, Cond.classLink RL 36 RX3, Cond.instantiable RX3 20, Cond.initialized RX3, Cond.arrayClass .long, Cond.methodLink RL 35 yX2_init, Cond.instanceMethod yX2_init, Cond.code yX2_init cX2_init 2 none, Cond.methodLink RX2 1 objectInit, Cond.instanceMethod objectInit, Cond.code objectInit ⟨#[0xb1]⟩ 1 none, Cond.classLink RX2 9 RX0, Cond.fieldLink RX2 11 "BranchFilters" "chain" "[LBranchFilters$Filter;", Cond.instantiable RX0 11, Cond.initialized RX0, Cond.classLink RX2 16 RX1, Cond.instantiable RX1 2, Cond.initialized RX1, Cond.fieldLink RX2 21 "BranchFilters" "moving" "LBranchFilters$Row;", Cond.fieldLink RX2 25 "BranchFilters" "result" "LBranchFilters$Row;", Cond.fieldLink RX2 28 "BranchFilters" "encoding" "Z", Cond.methodLink RX2 15 yX0_init]
def wsL_law0_r2 : List Cond := [Cond.instanceMethod yX0_init, Cond.code yX0_init cX0_init 1 none, Cond.methodLink RX0 3 objectInit, Cond.classLink RX0 9 RX1, Cond.fieldLink RX0 14 "BranchFilters$Filter" "held" "LBranchFilters$Row;", Cond.arrayClass .int, Cond.fieldLink RX0 20 "BranchFilters$Filter" "past" "[I", Cond.fieldLink RX0 24 "BranchFilters$Filter" "distance" "I", Cond.methodLink RX0 11 yX1_init, Cond.instanceMethod yX1_init, Cond.code yX1_init cX1_init 2 none, Cond.methodLink RX1 1 objectInit, Cond.fieldLink RX1 7 "BranchFilters$Row" "bytes" "[I", Cond.methodLink RX0 28 yX0_restart, Cond.instanceMethod yX0_restart, Cond.selects RX0 yX0_restart yX0_restart, Cond.code yX0_restart cX0_restart 4 none, Cond.fieldLink RX0 38 "BranchFilters$Filter" "encoding" "Z", Cond.fieldLink RX0 42 "BranchFilters$Filter" "place" "I", Cond.fieldLink RX0 45 "BranchFilters$Filter" "given" "I", Cond.fieldLink RX0 48 "BranchFilters$Filter" "replaced" "I", Cond.fieldLink RX0 51 "BranchFilters$Filter" "mask" "I", Cond.fieldLink RX0 54 "BranchFilters$Filter" "last" "I", Cond.methodLink RX0 35 yX1_clear]
def wsL_law0_r3 : List Cond := [Cond.instanceMethod yX1_clear, Cond.selects RX1 yX1_clear yX1_clear, Cond.code yX1_clear cX1_clear 1 none, Cond.fieldLink RX1 13 "BranchFilters$Row" "size" "I", Cond.methodLink RX2 18 yX1_init, Cond.methodLink RL 38 yX3_init, Cond.instanceMethod yX3_init, Cond.code yX3_init cX3_init 2 none, Cond.methodLink RX3 1 objectInit, Cond.fieldLink RX3 7 "BranchFiltersModel" "kind" "[I", Cond.fieldLink RX3 13 "BranchFiltersModel" "distance" "[I", Cond.fieldLink RX3 16 "BranchFiltersModel" "encoding" "Z", Cond.fieldLink RX3 20 "BranchFiltersModel" "held" "[I", Cond.fieldLink RX3 23 "BranchFiltersModel" "heldMany" "[I", Cond.fieldLink RX3 26 "BranchFiltersModel" "past" "[I", Cond.fieldLink RX3 29 "BranchFiltersModel" "given" "[I", Cond.fieldLink RX3 32 "BranchFiltersModel" "put" "[I", Cond.fieldLink RX3 35 "BranchFiltersModel" "mask" "[I", Cond.fieldLink RX3 38 "BranchFiltersModel" "last" "[I", Cond.fieldLink RX3 41 "BranchFiltersModel" "in" "[I", Cond.fieldLink RX3 44 "BranchFiltersModel" "next" "[I", Cond.fieldLink RX3 47 "BranchFiltersModel" "out" "[I", Cond.methodLink RX3 50 yX3_anew, Cond.instanceMethod yX3_anew]
def wsL_law0_r4 : List Cond := [Cond.selects RX3 yX3_anew yX3_anew, Cond.code yX3_anew cX3_anew 2 none, Cond.fieldLink RX3 57 "BranchFiltersModel" "came" "I", Cond.fieldLink RX3 60 "BranchFiltersModel" "isFinished" "Z", Cond.fieldLink RX3 63 "BranchFiltersModel" "outMany" "I", Cond.fieldLink RX3 66 "BranchFiltersModel" "start" "I", Cond.methodLink RL 39 yL_filter, Cond.static yL_filter, Cond.initialized RL, Cond.codeWith yL_filter cL_filter 5 (some .int) [(0, 7, 10, 13)], Cond.classLink RL 13 "java/lang/IllegalArgumentException", Cond.methodLink RL 7 yX2_filter, Cond.instanceMethod yX2_filter, Cond.selects RX2 yX2_filter yX2_filter, Cond.code yX2_filter cX2_filter 4 none, Cond.classLink RX2 32 "java/lang/IllegalArgumentException", Cond.initialized "java/lang/IllegalArgumentException", Cond.methodLink RX2 43 yX0_become, Cond.instanceMethod yX0_become, Cond.selects RX0 yX0_become yX0_become, Cond.code yX0_become cX0_become 3 none, Cond.fieldLink RX0 32 "BranchFilters$Filter" "kind" "I", Cond.methodLink RX2 47 yX2_beginAnew, Cond.instanceMethod yX2_beginAnew]
def wsL_law0_r5 : List Cond := [Cond.selects RX2 yX2_beginAnew yX2_beginAnew, Cond.code yX2_beginAnew cX2_beginAnew 2 none, Cond.fieldLink RX2 56 "BranchFilters" "finished" "Z", Cond.fieldLink RX2 63 "BranchFilters" "came" "I", Cond.fieldLink RX2 50 "BranchFilters" "start" "I", Cond.methodLink RX2 111 yX1_clear, Cond.methodLink RX2 114 yX0_restart, Cond.methodLink RL 44 yX3_filter, Cond.instanceMethod yX3_filter, Cond.selects RX3 yX3_filter yX3_filter, Cond.code yX3_filter cX3_filter 4 none, Cond.methodLink RX3 69 yX3_isIn, Cond.static yX3_isIn, Cond.code yX3_isIn cX3_isIn 3 (some .boolean), Cond.methodLink RX3 73 yX3_refused, Cond.instanceMethod yX3_refused, Cond.selects RX3 yX3_refused yX3_refused, Cond.code yX3_refused cX3_refused 2 (some .boolean), Cond.fieldLink RX3 53 "BranchFiltersModel" "fault" "I", Cond.methodLink RL 45 yX3_thrown, Cond.instanceMethod yX3_thrown, Cond.selects RX3 yX3_thrown yX3_thrown, Cond.code yX3_thrown cX3_thrown 1 (some .int), Cond.methodLink RL 48 yX2_begin]
def wsL_law0_r6 : List Cond := [Cond.instanceMethod yX2_begin, Cond.selects RX2 yX2_begin yX2_begin, Cond.code yX2_begin cX2_begin 3 none, Cond.methodLink RL 52 yX3_begin, Cond.instanceMethod yX3_begin, Cond.selects RX3 yX3_begin yX3_begin, Cond.code yX3_begin cX3_begin 3 none, Cond.methodLink RL 53 yL_feed, Cond.static yL_feed, Cond.codeWith yL_feed cL_feed 8 (some .int) [(0, 16, 19, 13), (0, 16, 23, 19)], Cond.classLink RL 19 "java/lang/IllegalStateException", Cond.methodLink RL 15 yX2_feed, Cond.instanceMethod yX2_feed, Cond.selects RX2 yX2_feed yX2_feed, Cond.code yX2_feed cX2_feed 8 (some .int), Cond.classLink RX2 59 "java/lang/IllegalStateException", Cond.initialized "java/lang/IllegalStateException", Cond.methodLink RX2 68 yX1_add, Cond.instanceMethod yX1_add, Cond.selects RX1 yX1_add yX1_add, Cond.code yX1_add cX1_add 2 none, Cond.methodLink RX2 71 yX2_sendThroughChain, Cond.instanceMethod yX2_sendThroughChain, Cond.selects RX2 yX2_sendThroughChain yX2_sendThroughChain]
def wsL_law0_r7 : List Cond := [Cond.code yX2_sendThroughChain cX2_sendThroughChain 4 none, Cond.methodLink RX2 118 yX0_pass, Cond.instanceMethod yX0_pass, Cond.selects RX0 yX0_pass yX0_pass, Cond.code yX0_pass cX0_pass 5 none, Cond.fieldLink RX0 65 "BranchFilters$Filter" "here" "I", Cond.fieldLink RX0 68 "BranchFilters$Filter" "NEEDED" "[I", Cond.methodLink RX0 57 yX1_size, Cond.instanceMethod yX1_size, Cond.selects RX1 yX1_size yX1_size, Cond.code yX1_size cX1_size 1 (some .int), Cond.methodLink RX0 61 yX1_moveTo, Cond.instanceMethod yX1_moveTo, Cond.selects RX1 yX1_moveTo yX1_moveTo, Cond.code yX1_moveTo cX1_moveTo 3 none, Cond.methodLink RX1 17 arraycopyName, Cond.native arraycopyName, Cond.static arraycopyName, Cond.initialized "java/lang/System", Cond.methodLink RX0 71 yX0_step, Cond.instanceMethod yX0_step, Cond.selects RX0 yX0_step yX0_step, Cond.code yX0_step cX0_step 1 (some .int), Cond.methodLink RX0 74 yX0_stepDelta]
def wsL_law0_r8 : List Cond := [Cond.instanceMethod yX0_stepDelta, Cond.selects RX0 yX0_stepDelta yX0_stepDelta, Cond.code yX0_stepDelta cX0_stepDelta 4 (some .int), Cond.methodLink RX0 95 yX1_at, Cond.instanceMethod yX1_at, Cond.selects RX1 yX1_at yX1_at, Cond.code yX1_at cX1_at 2 (some .int), Cond.methodLink RX0 99 yX0_moved, Cond.instanceMethod yX0_moved, Cond.selects RX0 yX0_moved yX0_moved, Cond.code yX0_moved cX0_moved 3 (some .int), Cond.methodLink RX0 103 yX1_set, Cond.instanceMethod yX1_set, Cond.selects RX1 yX1_set yX1_set, Cond.code yX1_set cX1_set 3 none, Cond.methodLink RX0 77 yX0_stepX86, Cond.instanceMethod yX0_stepX86, Cond.selects RX0 yX0_stepX86 yX0_stepX86, Cond.code yX0_stepX86 cX0_stepX86 4 (some .int), Cond.methodLink RX0 135 yX0_ageMask, Cond.instanceMethod yX0_ageMask, Cond.selects RX0 yX0_ageMask yX0_ageMask, Cond.code yX0_ageMask cX0_ageMask 3 none, Cond.methodLink RX0 138 yX0_isSignByte]
def wsL_law0_r9 : List Cond := [Cond.static yX0_isSignByte, Cond.code yX0_isSignByte cX0_isSignByte 1 (some .boolean), Cond.methodLink RX0 142 yX0_maskAllows, Cond.instanceMethod yX0_maskAllows, Cond.selects RX0 yX0_maskAllows yX0_maskAllows, Cond.code yX0_maskAllows cX0_maskAllows 3 (some .boolean), Cond.methodLink RX0 107 yX1_lowestFirst, Cond.instanceMethod yX1_lowestFirst, Cond.selects RX1 yX1_lowestFirst yX1_lowestFirst, Cond.code yX1_lowestFirst cX1_lowestFirst 2 (some .int), Cond.methodLink RX0 146 yX0_x86Target, Cond.instanceMethod yX0_x86Target, Cond.selects RX0 yX0_x86Target yX0_x86Target, Cond.code yX0_x86Target cX0_x86Target 9 (some .int), Cond.methodLink RX0 112 yX1_setLowestFirst, Cond.instanceMethod yX1_setLowestFirst, Cond.selects RX1 yX1_setLowestFirst yX1_setLowestFirst, Cond.code yX1_setLowestFirst cX1_setLowestFirst 3 none, Cond.methodLink RX0 80 yX0_stepArm, Cond.instanceMethod yX0_stepArm, Cond.selects RX0 yX0_stepArm yX0_stepArm, Cond.code yX0_stepArm cX0_stepArm 4 (some .int), Cond.constant RX0 110 (16777215), Cond.constant RX0 111 (-352321536)]
def wsL_law0_r10 : List Cond := [Cond.methodLink RX0 83 yX0_stepThumb, Cond.instanceMethod yX0_stepThumb, Cond.selects RX0 yX0_stepThumb yX0_stepThumb, Cond.code yX0_stepThumb cX0_stepThumb 7 (some .int), Cond.methodLink RX0 86 yX0_stepPower, Cond.instanceMethod yX0_stepPower, Cond.selects RX0 yX0_stepPower yX0_stepPower, Cond.code yX0_stepPower cX0_stepPower 3 (some .int), Cond.constant RX0 118 (67108860), Cond.constant RX0 119 (-67108861), Cond.methodLink RX0 115 yX1_highestFirst, Cond.instanceMethod yX1_highestFirst, Cond.selects RX1 yX1_highestFirst yX1_highestFirst, Cond.code yX1_highestFirst cX1_highestFirst 2 (some .int), Cond.methodLink RX0 120 yX1_setHighestFirst, Cond.instanceMethod yX1_setHighestFirst, Cond.selects RX1 yX1_setHighestFirst yX1_setHighestFirst, Cond.code yX1_setHighestFirst cX1_setHighestFirst 3 none, Cond.methodLink RX0 89 yX0_stepSparc, Cond.instanceMethod yX0_stepSparc, Cond.selects RX0 yX0_stepSparc yX0_stepSparc, Cond.code yX0_stepSparc cX0_stepSparc 5 (some .int), Cond.constant RX0 123 (1069547520), Cond.constant RX0 124 (1073741824)]
def wsL_law0_r11 : List Cond := [Cond.constant RX0 125 (4194303), Cond.methodLink RX0 92 yX0_stepRisc, Cond.instanceMethod yX0_stepRisc, Cond.selects RX0 yX0_stepRisc yX0_stepRisc, Cond.code yX0_stepRisc cX0_stepRisc 4 (some .int), Cond.methodLink RX0 126 yX0_replaceRiscJump, Cond.instanceMethod yX0_replaceRiscJump, Cond.selects RX0 yX0_replaceRiscJump yX0_replaceRiscJump, Cond.code yX0_replaceRiscJump cX0_replaceRiscJump 5 none, Cond.constant RX0 133 (1044480), Cond.methodLink RX0 129 yX0_replaceRiscPair, Cond.instanceMethod yX0_replaceRiscPair, Cond.selects RX0 yX0_replaceRiscPair yX0_replaceRiscPair, Cond.code yX0_replaceRiscPair cX0_replaceRiscPair 7 none, Cond.constant RX0 134 (1048575), Cond.methodLink RX2 122 yX0_giveRest, Cond.instanceMethod yX0_giveRest, Cond.selects RX0 yX0_giveRest yX0_giveRest, Cond.code yX0_giveRest cX0_giveRest 3 none, Cond.methodLink RX2 75 yX1_size, Cond.methodLink RX2 125 yX1_moveTo, Cond.methodLink RL 56 yX3_feed, Cond.instanceMethod yX3_feed, Cond.selects RX3 yX3_feed yX3_feed]
def wsL_law0_r12 : List Cond := [Cond.code yX3_feed cX3_feed 8 (some .int), Cond.fieldLink RX3 141 "BranchFiltersModel" "inMany" "I", Cond.methodLink RX3 150 yX3_goThrough, Cond.instanceMethod yX3_goThrough, Cond.selects RX3 yX3_goThrough yX3_goThrough, Cond.code yX3_goThrough cX3_goThrough 5 none, Cond.fieldLink RX3 85 "BranchFiltersModel" "nextMany" "I", Cond.methodLink RX3 81 yX3_change, Cond.instanceMethod yX3_change, Cond.selects RX3 yX3_change yX3_change, Cond.code yX3_change cX3_change 4 none, Cond.methodLink RX3 144 yX3_needs, Cond.static yX3_needs, Cond.code yX3_needs cX3_needs 1 (some .int), Cond.methodLink RX3 147 yX3_work, Cond.instanceMethod yX3_work, Cond.selects RX3 yX3_work yX3_work, Cond.code yX3_work cX3_work 2 none, Cond.methodLink RX3 88 yX3_give, Cond.instanceMethod yX3_give, Cond.selects RX3 yX3_give yX3_give, Cond.code yX3_give cX3_give 4 none, Cond.methodLink RX3 77 yX3_at, Cond.instanceMethod yX3_at]
def wsL_law0_r13 : List Cond := [Cond.selects RX3 yX3_at yX3_at, Cond.code yX3_at cX3_at 3 (some .int), Cond.methodLink RX3 119 yX3_delta, Cond.instanceMethod yX3_delta, Cond.selects RX3 yX3_delta yX3_delta, Cond.code yX3_delta cX3_delta 6 none, Cond.methodLink RX3 123 yX3_jump, Cond.instanceMethod yX3_jump, Cond.selects RX3 yX3_jump yX3_jump, Cond.code yX3_jump cX3_jump 10 none, Cond.methodLink RX3 92 yX3_place, Cond.instanceMethod yX3_place, Cond.selects RX3 yX3_place yX3_place, Cond.code yX3_place cX3_place 2 (some .int), Cond.methodLink RX3 116 yX3_isEnd, Cond.static yX3_isEnd, Cond.code yX3_isEnd cX3_isEnd 1 (some .boolean), Cond.methodLink RX3 109 yX3_low, Cond.instanceMethod yX3_low, Cond.selects RX3 yX3_low yX3_low, Cond.code yX3_low cX3_low 3 (some .int), Cond.methodLink RX3 96 yX3_moved, Cond.instanceMethod yX3_moved, Cond.selects RX3 yX3_moved yX3_moved]
def wsL_law0_r14 : List Cond := [Cond.code yX3_moved cX3_moved 3 (some .int), Cond.methodLink RX3 126 yX3_arm, Cond.instanceMethod yX3_arm, Cond.selects RX3 yX3_arm yX3_arm, Cond.code yX3_arm cX3_arm 3 none, Cond.methodLink RX3 129 yX3_thumb, Cond.instanceMethod yX3_thumb, Cond.selects RX3 yX3_thumb yX3_thumb, Cond.code yX3_thumb cX3_thumb 3 none, Cond.methodLink RX3 132 yX3_power, Cond.instanceMethod yX3_power, Cond.selects RX3 yX3_power yX3_power, Cond.code yX3_power cX3_power 4 none, Cond.constant RX3 102 (67108860), Cond.constant RX3 103 (-67108861), Cond.methodLink RX3 99 yX3_high, Cond.instanceMethod yX3_high, Cond.selects RX3 yX3_high yX3_high, Cond.code yX3_high cX3_high 3 (some .int), Cond.methodLink RX3 104 yX3_setHigh, Cond.instanceMethod yX3_setHigh, Cond.selects RX3 yX3_setHigh yX3_setHigh, Cond.code yX3_setHigh cX3_setHigh 5 none, Cond.methodLink RX3 135 yX3_sparc]
def wsL_law0_r15 : List Cond := [Cond.instanceMethod yX3_sparc, Cond.selects RX3 yX3_sparc yX3_sparc, Cond.code yX3_sparc cX3_sparc 5 none, Cond.constant RX3 107 (1073741824), Cond.constant RX3 108 (4194303), Cond.methodLink RX3 138 yX3_risc, Cond.instanceMethod yX3_risc, Cond.selects RX3 yX3_risc yX3_risc, Cond.code yX3_risc cX3_risc 6 none, Cond.constant RX3 115 (1048575), Cond.methodLink RX3 112 yX3_setLow, Cond.instanceMethod yX3_setLow, Cond.selects RX3 yX3_setLow yX3_setLow, Cond.code yX3_setLow cX3_setLow 5 none, Cond.methodLink RL 57 yL_finish, Cond.static yL_finish, Cond.codeWith yL_finish cL_finish 3 (some .int) [(0, 8, 11, 19)], Cond.methodLink RL 21 yX2_finish, Cond.instanceMethod yX2_finish, Cond.selects RX2 yX2_finish yX2_finish, Cond.code yX2_finish cX2_finish 1 (some .int), Cond.methodLink RL 60 yX3_finish, Cond.instanceMethod yX3_finish, Cond.selects RX3 yX3_finish yX3_finish]
def wsL_law0_r16 : List Cond := [Cond.code yX3_finish cX3_finish 1 (some .int), Cond.methodLink RL 61 yX2_output, Cond.instanceMethod yX2_output, Cond.selects RX2 yX2_output yX2_output, Cond.code yX2_output cX2_output 2 (some .int), Cond.methodLink RX2 79 yX1_at, Cond.methodLink RL 64 yX3_output, Cond.instanceMethod yX3_output, Cond.selects RX3 yX3_output yX3_output, Cond.code yX3_output cX3_output 2 (some .int), Cond.methodLink RL 65 yL_count, Cond.static yL_count, Cond.codeWith yL_count cL_count 5 (some .int) [(0, 10, 13, 13)], Cond.methodLink RL 25 yX2_count, Cond.instanceMethod yX2_count, Cond.selects RX2 yX2_count yX2_count, Cond.code yX2_count cX2_count 4 (some .int), Cond.methodLink RL 68 yX3_count, Cond.instanceMethod yX3_count, Cond.selects RX3 yX3_count yX3_count, Cond.code yX3_count cX3_count 3 (some .int), Cond.methodLink RL 69 yL_word, Cond.static yL_word, Cond.codeWith yL_word cL_word 4 (some .int) [(0, 9, 12, 33)]]
def wsL_law0_r17 : List Cond := [Cond.classLink RL 33 "java/lang/IndexOutOfBoundsException", Cond.methodLink RL 29 yX2_word, Cond.instanceMethod yX2_word, Cond.selects RX2 yX2_word yX2_word, Cond.code yX2_word cX2_word 2 (some .int), Cond.classLink RX2 103 "java/lang/IndexOutOfBoundsException", Cond.initialized "java/lang/IndexOutOfBoundsException", Cond.methodLink RX2 108 yX1_lowestFirst, Cond.methodLink RL 72 yX3_word, Cond.instanceMethod yX3_word, Cond.selects RX3 yX3_word yX3_word, Cond.code yX3_word cX3_word 2 (some .int)]
def wsL_law0 : List Cond := (wsL_law0_r1 ++ (wsL_law0_r2 ++ (wsL_law0_r3 ++ (wsL_law0_r4 ++ (wsL_law0_r5 ++ (wsL_law0_r6 ++ (wsL_law0_r7 ++ (wsL_law0_r8 ++ (wsL_law0_r9 ++ (wsL_law0_r10 ++ (wsL_law0_r11 ++ (wsL_law0_r12 ++ (wsL_law0_r13 ++ (wsL_law0_r14 ++ (wsL_law0_r15 ++ (wsL_law0_r16 ++ wsL_law0_r17)))))))))))))))) ++ wsX20 ++ wsX30 ++ wsX00 ++ wsX10 ++ ([] : List Cond)
def wsL_law : List Cond := wsL_law0 ++ (vx_atS RX2 36 "java/lang/IllegalArgumentException" ["java/lang/RuntimeException", "java/lang/Exception"]).filter goodWord ++ (vx_atS RX2 62 "java/lang/IllegalStateException" ["java/lang/RuntimeException", "java/lang/Exception"]).filter goodWord ++ (vx_atS RX2 107 "java/lang/IndexOutOfBoundsException" ["java/lang/RuntimeException", "java/lang/Exception"]).filter goodWord
set_option maxRecDepth 20000 in
theorem in_wsL_law0_r1 : ∀ w ∈ wsL_law0_r1, w ∈ lw_tbl := fun w h => (goodIn_p wsL_law0_r1 [53, 56] (by decide +kernel) (by decide +kernel) w h).1
set_option maxRecDepth 20000 in
theorem in_wsL_law0_r2 : ∀ w ∈ wsL_law0_r2, w ∈ lw_tbl := fun w h => (goodIn_p wsL_law0_r2 [62, 68, 81] (by decide +kernel) (by decide +kernel) w h).1
set_option maxRecDepth 20000 in
theorem in_wsL_law0_r3 : ∀ w ∈ wsL_law0_r3, w ∈ lw_tbl := fun w h => (goodIn_p wsL_law0_r3 [85, 440] (by decide +kernel) (by decide +kernel) w h).1
set_option maxRecDepth 20000 in
theorem in_wsL_law0_r4 : ∀ w ∈ wsL_law0_r4, w ∈ lw_tbl := fun w h => (goodIn_p wsL_law0_r4 [445, 179, 253] (by decide +kernel) (by decide +kernel) w h).1
set_option maxRecDepth 20000 in
theorem in_wsL_law0_r5 : ∀ w ∈ wsL_law0_r5, w ∈ lw_tbl := fun w h => (goodIn_p wsL_law0_r5 [157, 514, 517, 521, 510] (by decide +kernel) (by decide +kernel) w h).1
set_option maxRecDepth 20000 in
theorem in_wsL_law0_r6 : ∀ w ∈ wsL_law0_r6, w ∈ lw_tbl := fun w h => (goodIn_p wsL_law0_r6 [153, 525, 261, 283] (by decide +kernel) (by decide +kernel) w h).1
set_option maxRecDepth 20000 in
theorem in_wsL_law0_r7 : ∀ w ∈ wsL_law0_r7, w ∈ lw_tbl := fun w h => (goodIn_p wsL_law0_r7 [287, 291, 167, 296, 305] (by decide +kernel) (by decide +kernel) w h).1
set_option maxRecDepth 20000 in
theorem in_wsL_law0_r8 : ∀ w ∈ wsL_law0_r8, w ∈ lw_tbl := fun w h => (goodIn_p wsL_law0_r8 [309, 171, 314, 318, 322, 326] (by decide +kernel) (by decide +kernel) w h).1
set_option maxRecDepth 20000 in
theorem in_wsL_law0_r9 : ∀ w ∈ wsL_law0_r9, w ∈ lw_tbl := fun w h => (goodIn_p wsL_law0_r9 [329, 333, 337, 341, 345, 349] (by decide +kernel) (by decide +kernel) w h).1
set_option maxRecDepth 20000 in
theorem in_wsL_law0_r10 : ∀ w ∈ wsL_law0_r10, w ∈ lw_tbl := fun w h => (goodIn_p wsL_law0_r10 [355, 359, 363, 369, 373] (by decide +kernel) (by decide +kernel) w h).1
set_option maxRecDepth 20000 in
theorem in_wsL_law0_r11 : ∀ w ∈ wsL_law0_r11, w ∈ lw_tbl := fun w h => (goodIn_p wsL_law0_r11 [380, 384, 389, 394] (by decide +kernel) (by decide +kernel) w h).1
set_option maxRecDepth 20000 in
theorem in_wsL_law0_r12 : ∀ w ∈ wsL_law0_r12, w ∈ lw_tbl := fun w h => (goodIn_p wsL_law0_r12 [529, 533, 537, 540, 544, 548] (by decide +kernel) (by decide +kernel) w h).1
set_option maxRecDepth 20000 in
theorem in_wsL_law0_r13 : ∀ w ∈ wsL_law0_r13, w ∈ lw_tbl := fun w h => (goodIn_p wsL_law0_r13 [552, 556, 560, 564, 567, 571] (by decide +kernel) (by decide +kernel) w h).1
set_option maxRecDepth 20000 in
theorem in_wsL_law0_r14 : ∀ w ∈ wsL_law0_r14, w ∈ lw_tbl := fun w h => (goodIn_p wsL_law0_r14 [575, 579, 583, 587, 591, 597] (by decide +kernel) (by decide +kernel) w h).1
set_option maxRecDepth 20000 in
theorem in_wsL_law0_r15 : ∀ w ∈ wsL_law0_r15, w ∈ lw_tbl := fun w h => (goodIn_p wsL_law0_r15 [601, 607, 611, 402] (by decide +kernel) (by decide +kernel) w h).1
set_option maxRecDepth 20000 in
theorem in_wsL_law0_r16 : ∀ w ∈ wsL_law0_r16, w ∈ lw_tbl := fun w h => (goodIn_p wsL_law0_r16 [616, 163, 620, 409, 624] (by decide +kernel) (by decide +kernel) w h).1
set_option maxRecDepth 20000 in
theorem in_wsL_law0_r17 : ∀ w ∈ wsL_law0_r17, w ∈ lw_tbl := fun w h => (goodIn_p wsL_law0_r17 [418, 628] (by decide +kernel) (by decide +kernel) w h).1
set_option maxRecDepth 20000 in
theorem in_wsX20 : ∀ w ∈ wsX20, w ∈ lw_tbl := by decide +kernel
set_option maxRecDepth 20000 in
theorem in_wsX30 : ∀ w ∈ wsX30, w ∈ lw_tbl := by decide +kernel
set_option maxRecDepth 20000 in
theorem in_wsX00 : ∀ w ∈ wsX00, w ∈ lw_tbl := by decide +kernel
set_option maxRecDepth 20000 in
theorem in_wsX10 : ∀ w ∈ wsX10, w ∈ lw_tbl := by decide +kernel
theorem in_wsL_law0_r : ∀ w ∈ (wsL_law0_r1 ++ (wsL_law0_r2 ++ (wsL_law0_r3 ++ (wsL_law0_r4 ++ (wsL_law0_r5 ++ (wsL_law0_r6 ++ (wsL_law0_r7 ++ (wsL_law0_r8 ++ (wsL_law0_r9 ++ (wsL_law0_r10 ++ (wsL_law0_r11 ++ (wsL_law0_r12 ++ (wsL_law0_r13 ++ (wsL_law0_r14 ++ (wsL_law0_r15 ++ (wsL_law0_r16 ++ wsL_law0_r17)))))))))))))))), w ∈ lw_tbl := fun w h => (List.mem_append.mp h).elim (fun h => in_wsL_law0_r1 w h) (fun h => (fun w h => (List.mem_append.mp h).elim (fun h => in_wsL_law0_r2 w h) (fun h => (fun w h => (List.mem_append.mp h).elim (fun h => in_wsL_law0_r3 w h) (fun h => (fun w h => (List.mem_append.mp h).elim (fun h => in_wsL_law0_r4 w h) (fun h => (fun w h => (List.mem_append.mp h).elim (fun h => in_wsL_law0_r5 w h) (fun h => (fun w h => (List.mem_append.mp h).elim (fun h => in_wsL_law0_r6 w h) (fun h => (fun w h => (List.mem_append.mp h).elim (fun h => in_wsL_law0_r7 w h) (fun h => (fun w h => (List.mem_append.mp h).elim (fun h => in_wsL_law0_r8 w h) (fun h => (fun w h => (List.mem_append.mp h).elim (fun h => in_wsL_law0_r9 w h) (fun h => (fun w h => (List.mem_append.mp h).elim (fun h => in_wsL_law0_r10 w h) (fun h => (fun w h => (List.mem_append.mp h).elim (fun h => in_wsL_law0_r11 w h) (fun h => (fun w h => (List.mem_append.mp h).elim (fun h => in_wsL_law0_r12 w h) (fun h => (fun w h => (List.mem_append.mp h).elim (fun h => in_wsL_law0_r13 w h) (fun h => (fun w h => (List.mem_append.mp h).elim (fun h => in_wsL_law0_r14 w h) (fun h => (fun w h => (List.mem_append.mp h).elim (fun h => in_wsL_law0_r15 w h) (fun h => (fun w h => (List.mem_append.mp h).elim (fun h => in_wsL_law0_r16 w h) (fun h => (fun w h => in_wsL_law0_r17 w h) w h)) w h)) w h)) w h)) w h)) w h)) w h)) w h)) w h)) w h)) w h)) w h)) w h)) w h)) w h)) w h)
theorem wsL_law_in0 : ∀ w ∈ wsL_law0, w ∈ lw_tbl := fun w h => (List.mem_append.mp h).elim (fun h => (List.mem_append.mp h).elim (fun h => (List.mem_append.mp h).elim (fun h => (List.mem_append.mp h).elim (fun h => (List.mem_append.mp h).elim (fun h => in_wsL_law0_r w h) (fun h => in_wsX20 w h)) (fun h => in_wsX30 w h)) (fun h => in_wsX00 w h)) (fun h => in_wsX10 w h)) (fun h => absurd h List.not_mem_nil)
theorem wsL_law_x0 : ∀ w ∈ (vx_atS RX2 36 "java/lang/IllegalArgumentException" ["java/lang/RuntimeException", "java/lang/Exception"]).filter goodWord, w ∈ lw_tbl := by decide +kernel
theorem wsL_law_x1 : ∀ w ∈ (vx_atS RX2 62 "java/lang/IllegalStateException" ["java/lang/RuntimeException", "java/lang/Exception"]).filter goodWord, w ∈ lw_tbl := by decide +kernel
theorem wsL_law_x2 : ∀ w ∈ (vx_atS RX2 107 "java/lang/IndexOutOfBoundsException" ["java/lang/RuntimeException", "java/lang/Exception"]).filter goodWord, w ∈ lw_tbl := by decide +kernel
theorem wsL_law_in : ∀ w ∈ wsL_law, w ∈ lw_tbl := fun w h => (List.mem_append.mp h).elim (fun h => (List.mem_append.mp h).elim (fun h => (List.mem_append.mp h).elim (fun h => wsL_law_in0 w h) (fun h => wsL_law_x0 w h)) (fun h => wsL_law_x1 w h)) (fun h => wsL_law_x2 w h)
theorem inlX0 : ∀ w ∈ wsX00, w ∈ wsL_law := fun _ h => List.mem_append_left _ (List.mem_append_left _ (List.mem_append_left _ (List.mem_append_left _ (List.mem_append_left _ (List.mem_append_right _ h)))))
theorem inX0 : ∀ w ∈ wsX00, w ∈ lw_tbl := fun w h => wsL_law_in w (inlX0 w h)
theorem inlX1 : ∀ w ∈ wsX10, w ∈ wsL_law := fun _ h => List.mem_append_left _ (List.mem_append_left _ (List.mem_append_left _ (List.mem_append_left _ (List.mem_append_right _ h))))
theorem inX1 : ∀ w ∈ wsX10, w ∈ lw_tbl := fun w h => wsL_law_in w (inlX1 w h)
theorem inlX2 : ∀ w ∈ wsX20, w ∈ wsL_law := fun _ h => List.mem_append_left _ (List.mem_append_left _ (List.mem_append_left _ (List.mem_append_left _ (List.mem_append_left _ (List.mem_append_left _ (List.mem_append_left _ (List.mem_append_right _ h)))))))
theorem inX2 : ∀ w ∈ wsX20, w ∈ lw_tbl := fun w h => wsL_law_in w (inlX2 w h)
theorem inlX3 : ∀ w ∈ wsX30, w ∈ wsL_law := fun _ h => List.mem_append_left _ (List.mem_append_left _ (List.mem_append_left _ (List.mem_append_left _ (List.mem_append_left _ (List.mem_append_left _ (List.mem_append_right _ h))))))
theorem inX3 : ∀ w ∈ wsX30, w ∈ lw_tbl := fun w h => wsL_law_in w (inlX3 w h)
theorem inJ0 : ∀ w ∈ wsJ00, w ∈ lw_tbl := by decide +kernel
theorem inJ10 : ∀ w ∈ wsJ100, w ∈ lw_tbl := by decide +kernel
set_option maxRecDepth 20000 in
theorem ggX0_init_X1_init : GoodIn wsX0_init wsX1_init := goodIn_r _ [13, 14, 2, 3, 8, 15, 32, 33] (by decide +kernel) (by decide +kernel)
set_option maxRecDepth 20000 in
theorem gX0_init_X1_init : GoodIn wsX0_init (wsX1_init) := ggX0_init_X1_init
set_option maxRecDepth 20000 in
theorem ggX0_init_X0_restart : GoodIn wsX0_init wsX0_restart := goodIn_r _ [20, 7, 9, 21, 22, 23, 24, 25, 26, 27, 28, 29, 6, 30, 31, 34, 35, 36, 37, 38, 39, 40, 41, 42, 43, 44, 32, 33] (by decide +kernel) (by decide +kernel)
set_option maxRecDepth 20000 in
theorem gX0_init_X0_restart : GoodIn wsX0_init (wsV RX0 28 RX0 yX0_restart wsX0_restart) := goodIn_app (goodIn_of _ (by decide +kernel)) ggX0_init_X0_restart
theorem dX0_init_0 : decode cX0_init 0 = .ok (.aload_n 0, 1) := by decide +kernel
theorem dX0_init_1 : decode cX0_init 1 = .ok (.invokespecial 3, 3) := by decide +kernel
theorem dX0_init_4 : decode cX0_init 4 = .ok (.aload_n 0, 1) := by decide +kernel
theorem dX0_init_5 : decode cX0_init 5 = .ok (.new 9, 3) := by decide +kernel
theorem dX0_init_8 : decode cX0_init 8 = .ok (.dup, 1) := by decide +kernel
theorem dX0_init_9 : decode cX0_init 9 = .ok (.bipush 64, 2) := by decide +kernel
theorem dX0_init_11 : decode cX0_init 11 = .ok (.invokespecial 11, 3) := by decide +kernel
theorem dX0_init_14 : decode cX0_init 14 = .ok (.putfield 14, 3) := by decide +kernel
theorem dX0_init_17 : decode cX0_init 17 = .ok (.aload_n 0, 1) := by decide +kernel
theorem dX0_init_18 : decode cX0_init 18 = .ok (.bipush 32, 2) := by decide +kernel
theorem dX0_init_20 : decode cX0_init 20 = .ok (.newarray .int, 2) := by decide +kernel
theorem dX0_init_22 : decode cX0_init 22 = .ok (.putfield 20, 3) := by decide +kernel
theorem dX0_init_25 : decode cX0_init 25 = .ok (.aload_n 0, 1) := by decide +kernel
theorem dX0_init_26 : decode cX0_init 26 = .ok (.iconst 1, 1) := by decide +kernel
theorem dX0_init_27 : decode cX0_init 27 = .ok (.putfield 24, 3) := by decide +kernel
theorem dX0_init_30 : decode cX0_init 30 = .ok (.aload_n 0, 1) := by decide +kernel
theorem dX0_init_31 : decode cX0_init 31 = .ok (.iconst 0, 1) := by decide +kernel
theorem dX0_init_32 : decode cX0_init 32 = .ok (.iconst 1, 1) := by decide +kernel
theorem dX0_init_33 : decode cX0_init 33 = .ok (.invokevirtual 28, 3) := by decide +kernel
theorem dX0_init_36 : decode cX0_init 36 = .ok (.return_, 1) := by decide +kernel
theorem dX0_become_0 : decode cX0_become 0 = .ok (.aload_n 0, 1) := by decide +kernel
theorem dX0_become_1 : decode cX0_become 1 = .ok (.iload_n 1, 1) := by decide +kernel
theorem dX0_become_2 : decode cX0_become 2 = .ok (.putfield 32, 3) := by decide +kernel
theorem dX0_become_5 : decode cX0_become 5 = .ok (.aload_n 0, 1) := by decide +kernel
theorem dX0_become_6 : decode cX0_become 6 = .ok (.iload_n 2, 1) := by decide +kernel
theorem dX0_become_7 : decode cX0_become 7 = .ok (.putfield 24, 3) := by decide +kernel
theorem dX0_become_10 : decode cX0_become 10 = .ok (.return_, 1) := by decide +kernel
set_option maxRecDepth 20000 in
theorem ggX0_restart_X1_clear : GoodIn wsX0_restart wsX1_clear := goodIn_r _ [13, 14, 26, 27] (by decide +kernel) (by decide +kernel)
set_option maxRecDepth 20000 in
theorem gX0_restart_X1_clear : GoodIn wsX0_restart (wsV RX0 35 RX1 yX1_clear wsX1_clear) := goodIn_app (goodIn_of _ (by decide +kernel)) ggX0_restart_X1_clear
theorem dX0_restart_0 : decode cX0_restart 0 = .ok (.aload_n 0, 1) := by decide +kernel
theorem dX0_restart_1 : decode cX0_restart 1 = .ok (.getfield 14, 3) := by decide +kernel
theorem dX0_restart_4 : decode cX0_restart 4 = .ok (.invokevirtual 35, 3) := by decide +kernel
theorem dX0_restart_7 : decode cX0_restart 7 = .ok (.iconst 0, 1) := by decide +kernel
theorem dX0_restart_8 : decode cX0_restart 8 = .ok (.istore_n 3, 1) := by decide +kernel
theorem dX0_restart_9 : decode cX0_restart 9 = .ok (.iload_n 3, 1) := by decide +kernel
theorem dX0_restart_10 : decode cX0_restart 10 = .ok (.bipush 32, 2) := by decide +kernel
theorem dX0_restart_12 : decode cX0_restart 12 = .ok (.if_icmp .ge 16, 3) := by decide +kernel
theorem dX0_restart_15 : decode cX0_restart 15 = .ok (.aload_n 0, 1) := by decide +kernel
theorem dX0_restart_16 : decode cX0_restart 16 = .ok (.getfield 20, 3) := by decide +kernel
theorem dX0_restart_19 : decode cX0_restart 19 = .ok (.iload_n 3, 1) := by decide +kernel
theorem dX0_restart_20 : decode cX0_restart 20 = .ok (.iconst 0, 1) := by decide +kernel
theorem dX0_restart_21 : decode cX0_restart 21 = .ok (.iastore, 1) := by decide +kernel
theorem dX0_restart_22 : decode cX0_restart 22 = .ok (.iinc 3 1, 3) := by decide +kernel
theorem dX0_restart_25 : decode cX0_restart 25 = .ok (.goto (-16), 3) := by decide +kernel
theorem dX0_restart_28 : decode cX0_restart 28 = .ok (.aload_n 0, 1) := by decide +kernel
theorem dX0_restart_29 : decode cX0_restart 29 = .ok (.iload_n 2, 1) := by decide +kernel
theorem dX0_restart_30 : decode cX0_restart 30 = .ok (.putfield 38, 3) := by decide +kernel
theorem dX0_restart_33 : decode cX0_restart 33 = .ok (.aload_n 0, 1) := by decide +kernel
theorem dX0_restart_34 : decode cX0_restart 34 = .ok (.iload_n 1, 1) := by decide +kernel
theorem dX0_restart_35 : decode cX0_restart 35 = .ok (.putfield 42, 3) := by decide +kernel
theorem dX0_restart_38 : decode cX0_restart 38 = .ok (.aload_n 0, 1) := by decide +kernel
theorem dX0_restart_39 : decode cX0_restart 39 = .ok (.iconst 0, 1) := by decide +kernel
theorem dX0_restart_40 : decode cX0_restart 40 = .ok (.putfield 45, 3) := by decide +kernel
theorem dX0_restart_43 : decode cX0_restart 43 = .ok (.aload_n 0, 1) := by decide +kernel
theorem dX0_restart_44 : decode cX0_restart 44 = .ok (.iconst 0, 1) := by decide +kernel
theorem dX0_restart_45 : decode cX0_restart 45 = .ok (.putfield 48, 3) := by decide +kernel
theorem dX0_restart_48 : decode cX0_restart 48 = .ok (.aload_n 0, 1) := by decide +kernel
theorem dX0_restart_49 : decode cX0_restart 49 = .ok (.iconst 0, 1) := by decide +kernel
theorem dX0_restart_50 : decode cX0_restart 50 = .ok (.putfield 51, 3) := by decide +kernel
theorem dX0_restart_53 : decode cX0_restart 53 = .ok (.aload_n 0, 1) := by decide +kernel
theorem dX0_restart_54 : decode cX0_restart 54 = .ok (.iload_n 1, 1) := by decide +kernel
theorem dX0_restart_55 : decode cX0_restart 55 = .ok (.iconst 5, 1) := by decide +kernel
theorem dX0_restart_56 : decode cX0_restart 56 = .ok (.isub, 1) := by decide +kernel
theorem dX0_restart_57 : decode cX0_restart 57 = .ok (.putfield 54, 3) := by decide +kernel
theorem dX0_restart_60 : decode cX0_restart 60 = .ok (.return_, 1) := by decide +kernel
set_option maxRecDepth 20000 in
theorem ggX0_pass_X1_size : GoodIn wsX0_pass wsX1_size := goodIn_r _ [11, 12, 132, 133] (by decide +kernel) (by decide +kernel)
set_option maxRecDepth 20000 in
theorem gX0_pass_X1_size : GoodIn wsX0_pass (wsV RX0 57 RX1 yX1_size wsX1_size) := goodIn_app (goodIn_of _ (by decide +kernel)) ggX0_pass_X1_size
set_option maxRecDepth 20000 in
theorem ggX0_pass_X1_moveTo : GoodIn wsX0_pass wsX1_moveTo := goodIn_r _ [16, 17, 12, 18, 19, 20, 21, 132, 133] (by decide +kernel) (by decide +kernel)
set_option maxRecDepth 20000 in
theorem gX0_pass_X1_moveTo : GoodIn wsX0_pass (wsV RX0 61 RX1 yX1_moveTo wsX1_moveTo) := goodIn_app (goodIn_of _ (by decide +kernel)) ggX0_pass_X1_moveTo
set_option maxRecDepth 20000 in
theorem ggX0_pass_X0_step : GoodIn wsX0_pass wsX0_step := goodIn_r _ [26, 4, 27, 28, 29, 25, 30, 5, 31, 32, 1, 2, 33, 34, 35, 36, 10, 37, 17, 38, 39, 40, 41, 42, 43, 44, 45, 46, 47, 48, 49, 50, 51, 52, 53, 54, 55, 56, 57, 58, 59, 60, 61, 62, 63, 64, 65, 66, 67, 68, 69, 70, 71, 72, 73, 74, 75, 76, 77, 78, 79, 80, 81, 82, 83, 84, 85, 86, 87, 88, 89, 90, 91, 92, 93, 94, 95, 96, 97, 98, 99, 100, 101, 102, 103, 104, 105, 106, 107, 108, 109, 110, 111, 112, 113, 114, 115, 116, 117, 118, 119, 120, 121, 122, 123, 124, 125, 126, 127, 128, 129, 130, 131, 132, 133] (by decide +kernel) (by decide +kernel)
set_option maxRecDepth 20000 in
theorem gX0_pass_X0_step : GoodIn wsX0_pass (wsV RX0 71 RX0 yX0_step wsX0_step) := goodIn_app (goodIn_of _ (by decide +kernel)) ggX0_pass_X0_step
theorem dX0_pass_0 : decode cX0_pass 0 = .ok (.aload_n 1, 1) := by decide +kernel
theorem dX0_pass_1 : decode cX0_pass 1 = .ok (.aload_n 0, 1) := by decide +kernel
theorem dX0_pass_2 : decode cX0_pass 2 = .ok (.getfield 14, 3) := by decide +kernel
theorem dX0_pass_5 : decode cX0_pass 5 = .ok (.aload_n 1, 1) := by decide +kernel
theorem dX0_pass_6 : decode cX0_pass 6 = .ok (.invokevirtual 57, 3) := by decide +kernel
theorem dX0_pass_9 : decode cX0_pass 9 = .ok (.invokevirtual 61, 3) := by decide +kernel
theorem dX0_pass_12 : decode cX0_pass 12 = .ok (.aload_n 0, 1) := by decide +kernel
theorem dX0_pass_13 : decode cX0_pass 13 = .ok (.iconst 0, 1) := by decide +kernel
theorem dX0_pass_14 : decode cX0_pass 14 = .ok (.putfield 65, 3) := by decide +kernel
theorem dX0_pass_17 : decode cX0_pass 17 = .ok (.aload_n 0, 1) := by decide +kernel
theorem dX0_pass_18 : decode cX0_pass 18 = .ok (.getfield 14, 3) := by decide +kernel
theorem dX0_pass_21 : decode cX0_pass 21 = .ok (.invokevirtual 57, 3) := by decide +kernel
theorem dX0_pass_24 : decode cX0_pass 24 = .ok (.getstatic 68, 3) := by decide +kernel
theorem dX0_pass_27 : decode cX0_pass 27 = .ok (.aload_n 0, 1) := by decide +kernel
theorem dX0_pass_28 : decode cX0_pass 28 = .ok (.getfield 32, 3) := by decide +kernel
theorem dX0_pass_31 : decode cX0_pass 31 = .ok (.iaload, 1) := by decide +kernel
theorem dX0_pass_32 : decode cX0_pass 32 = .ok (.isub, 1) := by decide +kernel
theorem dX0_pass_33 : decode cX0_pass 33 = .ok (.istore_n 2, 1) := by decide +kernel
theorem dX0_pass_34 : decode cX0_pass 34 = .ok (.iconst 0, 1) := by decide +kernel
theorem dX0_pass_35 : decode cX0_pass 35 = .ok (.istore_n 3, 1) := by decide +kernel
theorem dX0_pass_36 : decode cX0_pass 36 = .ok (.iload_n 3, 1) := by decide +kernel
theorem dX0_pass_37 : decode cX0_pass 37 = .ok (.bipush 64, 2) := by decide +kernel
theorem dX0_pass_39 : decode cX0_pass 39 = .ok (.if_icmp .ge 45, 3) := by decide +kernel
theorem dX0_pass_42 : decode cX0_pass 42 = .ok (.aload_n 0, 1) := by decide +kernel
theorem dX0_pass_43 : decode cX0_pass 43 = .ok (.getfield 65, 3) := by decide +kernel
theorem dX0_pass_46 : decode cX0_pass 46 = .ok (.iload_n 2, 1) := by decide +kernel
theorem dX0_pass_47 : decode cX0_pass 47 = .ok (.if_icmp .gt 37, 3) := by decide +kernel
theorem dX0_pass_50 : decode cX0_pass 50 = .ok (.aload_n 0, 1) := by decide +kernel
theorem dX0_pass_51 : decode cX0_pass 51 = .ok (.invokevirtual 71, 3) := by decide +kernel
theorem dX0_pass_54 : decode cX0_pass 54 = .ok (.istore 4, 2) := by decide +kernel
theorem dX0_pass_56 : decode cX0_pass 56 = .ok (.aload_n 0, 1) := by decide +kernel
theorem dX0_pass_57 : decode cX0_pass 57 = .ok (.dup, 1) := by decide +kernel
theorem dX0_pass_58 : decode cX0_pass 58 = .ok (.getfield 65, 3) := by decide +kernel
theorem dX0_pass_61 : decode cX0_pass 61 = .ok (.iload 4, 2) := by decide +kernel
theorem dX0_pass_63 : decode cX0_pass 63 = .ok (.iadd, 1) := by decide +kernel
theorem dX0_pass_64 : decode cX0_pass 64 = .ok (.putfield 65, 3) := by decide +kernel
theorem dX0_pass_67 : decode cX0_pass 67 = .ok (.aload_n 0, 1) := by decide +kernel
theorem dX0_pass_68 : decode cX0_pass 68 = .ok (.dup, 1) := by decide +kernel
theorem dX0_pass_69 : decode cX0_pass 69 = .ok (.getfield 42, 3) := by decide +kernel
theorem dX0_pass_72 : decode cX0_pass 72 = .ok (.iload 4, 2) := by decide +kernel
theorem dX0_pass_74 : decode cX0_pass 74 = .ok (.iadd, 1) := by decide +kernel
theorem dX0_pass_75 : decode cX0_pass 75 = .ok (.putfield 42, 3) := by decide +kernel
theorem dX0_pass_78 : decode cX0_pass 78 = .ok (.iinc 3 1, 3) := by decide +kernel
theorem dX0_pass_81 : decode cX0_pass 81 = .ok (.goto (-45), 3) := by decide +kernel
theorem dX0_pass_84 : decode cX0_pass 84 = .ok (.aload_n 0, 1) := by decide +kernel
theorem dX0_pass_85 : decode cX0_pass 85 = .ok (.dup, 1) := by decide +kernel
theorem dX0_pass_86 : decode cX0_pass 86 = .ok (.getfield 45, 3) := by decide +kernel
theorem dX0_pass_89 : decode cX0_pass 89 = .ok (.aload_n 0, 1) := by decide +kernel
theorem dX0_pass_90 : decode cX0_pass 90 = .ok (.getfield 65, 3) := by decide +kernel
theorem dX0_pass_93 : decode cX0_pass 93 = .ok (.iadd, 1) := by decide +kernel
theorem dX0_pass_94 : decode cX0_pass 94 = .ok (.putfield 45, 3) := by decide +kernel
theorem dX0_pass_97 : decode cX0_pass 97 = .ok (.aload_n 0, 1) := by decide +kernel
theorem dX0_pass_98 : decode cX0_pass 98 = .ok (.getfield 14, 3) := by decide +kernel
theorem dX0_pass_101 : decode cX0_pass 101 = .ok (.aload_n 1, 1) := by decide +kernel
theorem dX0_pass_102 : decode cX0_pass 102 = .ok (.aload_n 0, 1) := by decide +kernel
theorem dX0_pass_103 : decode cX0_pass 103 = .ok (.getfield 65, 3) := by decide +kernel
theorem dX0_pass_106 : decode cX0_pass 106 = .ok (.invokevirtual 61, 3) := by decide +kernel
theorem dX0_pass_109 : decode cX0_pass 109 = .ok (.return_, 1) := by decide +kernel
set_option maxRecDepth 20000 in
theorem ggX0_giveRest_X1_size : GoodIn wsX0_giveRest wsX1_size := goodIn_r _ [8, 9, 30, 31] (by decide +kernel) (by decide +kernel)
set_option maxRecDepth 20000 in
theorem gX0_giveRest_X1_size : GoodIn wsX0_giveRest (wsV RX0 57 RX1 yX1_size wsX1_size) := goodIn_app (goodIn_of _ (by decide +kernel)) ggX0_giveRest_X1_size
set_option maxRecDepth 20000 in
theorem ggX0_giveRest_X1_moveTo : GoodIn wsX0_giveRest wsX1_moveTo := goodIn_r _ [13, 14, 9, 15, 16, 17, 18, 30, 31] (by decide +kernel) (by decide +kernel)
set_option maxRecDepth 20000 in
theorem gX0_giveRest_X1_moveTo : GoodIn wsX0_giveRest (wsV RX0 61 RX1 yX1_moveTo wsX1_moveTo) := goodIn_app (goodIn_of _ (by decide +kernel)) ggX0_giveRest_X1_moveTo
theorem dX0_giveRest_0 : decode cX0_giveRest 0 = .ok (.aload_n 0, 1) := by decide +kernel
theorem dX0_giveRest_1 : decode cX0_giveRest 1 = .ok (.getfield 14, 3) := by decide +kernel
theorem dX0_giveRest_4 : decode cX0_giveRest 4 = .ok (.invokevirtual 57, 3) := by decide +kernel
theorem dX0_giveRest_7 : decode cX0_giveRest 7 = .ok (.istore_n 2, 1) := by decide +kernel
theorem dX0_giveRest_8 : decode cX0_giveRest 8 = .ok (.aload_n 0, 1) := by decide +kernel
theorem dX0_giveRest_9 : decode cX0_giveRest 9 = .ok (.dup, 1) := by decide +kernel
theorem dX0_giveRest_10 : decode cX0_giveRest 10 = .ok (.getfield 42, 3) := by decide +kernel
theorem dX0_giveRest_13 : decode cX0_giveRest 13 = .ok (.iload_n 2, 1) := by decide +kernel
theorem dX0_giveRest_14 : decode cX0_giveRest 14 = .ok (.iadd, 1) := by decide +kernel
theorem dX0_giveRest_15 : decode cX0_giveRest 15 = .ok (.putfield 42, 3) := by decide +kernel
theorem dX0_giveRest_18 : decode cX0_giveRest 18 = .ok (.aload_n 0, 1) := by decide +kernel
theorem dX0_giveRest_19 : decode cX0_giveRest 19 = .ok (.dup, 1) := by decide +kernel
theorem dX0_giveRest_20 : decode cX0_giveRest 20 = .ok (.getfield 45, 3) := by decide +kernel
theorem dX0_giveRest_23 : decode cX0_giveRest 23 = .ok (.iload_n 2, 1) := by decide +kernel
theorem dX0_giveRest_24 : decode cX0_giveRest 24 = .ok (.iadd, 1) := by decide +kernel
theorem dX0_giveRest_25 : decode cX0_giveRest 25 = .ok (.putfield 45, 3) := by decide +kernel
theorem dX0_giveRest_28 : decode cX0_giveRest 28 = .ok (.aload_n 0, 1) := by decide +kernel
theorem dX0_giveRest_29 : decode cX0_giveRest 29 = .ok (.getfield 14, 3) := by decide +kernel
theorem dX0_giveRest_32 : decode cX0_giveRest 32 = .ok (.aload_n 1, 1) := by decide +kernel
theorem dX0_giveRest_33 : decode cX0_giveRest 33 = .ok (.iload_n 2, 1) := by decide +kernel
theorem dX0_giveRest_34 : decode cX0_giveRest 34 = .ok (.invokevirtual 61, 3) := by decide +kernel
theorem dX0_giveRest_37 : decode cX0_giveRest 37 = .ok (.return_, 1) := by decide +kernel
set_option maxRecDepth 20000 in
theorem ggX0_step_X0_stepDelta : GoodIn wsX0_step wsX0_stepDelta := goodIn_r _ [6, 7, 8, 9, 10, 11, 12, 13, 14, 15, 16, 17, 18, 19, 20, 21, 5, 22, 23, 24, 25, 26, 102, 103, 104, 105, 106, 107, 108, 109, 110, 111, 112, 113, 114] (by decide +kernel) (by decide +kernel)
set_option maxRecDepth 20000 in
theorem gX0_step_X0_stepDelta : GoodIn wsX0_step (wsV RX0 74 RX0 yX0_stepDelta wsX0_stepDelta) := goodIn_app (goodIn_of _ (by decide +kernel)) ggX0_step_X0_stepDelta
set_option maxRecDepth 20000 in
theorem ggX0_step_X0_stepX86 : GoodIn wsX0_step wsX0_stepX86 := goodIn_r _ [30, 10, 11, 7, 31, 32, 13, 14, 15, 16, 17, 18, 33, 34, 35, 5, 36, 37, 38, 39, 40, 41, 42, 43, 44, 45, 46, 47, 48, 49, 50, 51, 52, 19, 20, 21, 22, 12, 53, 54, 55, 56, 102, 103, 104, 105, 106, 107, 108, 109, 110, 111, 112, 113, 114] (by decide +kernel) (by decide +kernel)
set_option maxRecDepth 20000 in
theorem gX0_step_X0_stepX86 : GoodIn wsX0_step (wsV RX0 77 RX0 yX0_stepX86 wsX0_stepX86) := goodIn_app (goodIn_of _ (by decide +kernel)) ggX0_step_X0_stepX86
set_option maxRecDepth 20000 in
theorem ggX0_step_X0_stepArm : GoodIn wsX0_step wsX0_stepArm := goodIn_r _ [60, 10, 11, 61, 7, 62, 32, 45, 46, 47, 16, 48, 18, 19, 20, 21, 5, 22, 12, 53, 54, 55, 56, 102, 103, 104, 105, 106, 107, 108, 109, 110, 111, 112, 113, 114] (by decide +kernel) (by decide +kernel)
set_option maxRecDepth 20000 in
theorem gX0_step_X0_stepArm : GoodIn wsX0_step (wsV RX0 80 RX0 yX0_stepArm wsX0_stepArm) := goodIn_app (goodIn_of _ (by decide +kernel)) ggX0_step_X0_stepArm
set_option maxRecDepth 20000 in
theorem ggX0_step_X0_stepThumb : GoodIn wsX0_step wsX0_stepThumb := goodIn_r _ [66, 10, 11, 7, 32, 13, 14, 15, 16, 17, 18, 19, 20, 21, 5, 22, 12, 23, 24, 25, 26, 102, 103, 104, 105, 106, 107, 108, 109, 110, 111, 112, 113, 114] (by decide +kernel) (by decide +kernel)
set_option maxRecDepth 20000 in
theorem gX0_step_X0_stepThumb : GoodIn wsX0_step (wsV RX0 83 RX0 yX0_stepThumb wsX0_stepThumb) := goodIn_app (goodIn_of _ (by decide +kernel)) ggX0_step_X0_stepThumb
set_option maxRecDepth 20000 in
theorem ggX0_step_X0_stepPower : GoodIn wsX0_step wsX0_stepPower := goodIn_r _ [70, 10, 11, 71, 7, 72, 32, 73, 74, 75, 16, 76, 18, 19, 20, 21, 5, 22, 12, 77, 78, 79, 80, 102, 103, 104, 105, 106, 107, 108, 109, 110, 111, 112, 113, 114] (by decide +kernel) (by decide +kernel)
set_option maxRecDepth 20000 in
theorem gX0_step_X0_stepPower : GoodIn wsX0_step (wsV RX0 86 RX0 yX0_stepPower wsX0_stepPower) := goodIn_app (goodIn_of _ (by decide +kernel)) ggX0_step_X0_stepPower
set_option maxRecDepth 20000 in
theorem ggX0_step_X0_stepSparc : GoodIn wsX0_step wsX0_stepSparc := goodIn_r _ [84, 10, 11, 7, 85, 86, 87, 32, 73, 74, 75, 16, 76, 18, 19, 20, 21, 5, 22, 12, 77, 78, 79, 80, 102, 103, 104, 105, 106, 107, 108, 109, 110, 111, 112, 113, 114] (by decide +kernel) (by decide +kernel)
set_option maxRecDepth 20000 in
theorem gX0_step_X0_stepSparc : GoodIn wsX0_step (wsV RX0 89 RX0 yX0_stepSparc wsX0_stepSparc) := goodIn_app (goodIn_of _ (by decide +kernel)) ggX0_step_X0_stepSparc
set_option maxRecDepth 20000 in
theorem ggX0_step_X0_stepRisc : GoodIn wsX0_step wsX0_stepRisc := goodIn_r _ [91, 10, 11, 45, 46, 47, 16, 48, 18, 92, 93, 94, 5, 95, 96, 7, 32, 19, 20, 21, 22, 12, 53, 54, 55, 56, 97, 98, 99, 100, 101, 102, 103, 104, 105, 106, 107, 108, 109, 110, 111, 112, 113, 114] (by decide +kernel) (by decide +kernel)
set_option maxRecDepth 20000 in
theorem gX0_step_X0_stepRisc : GoodIn wsX0_step (wsV RX0 92 RX0 yX0_stepRisc wsX0_stepRisc) := goodIn_app (goodIn_of _ (by decide +kernel)) ggX0_step_X0_stepRisc
theorem dX0_step_0 : decode cX0_step 0 = .ok (.aload_n 0, 1) := by decide +kernel
theorem dX0_step_1 : decode cX0_step 1 = .ok (.getfield 32, 3) := by decide +kernel
theorem dX0_step_4 : decode cX0_step 4 = .ok (.tableswitch 79 1 7 #[44, 49, 54, 59, 64, 69, 74], 44) := by decide +kernel
theorem dX0_step_48 : decode cX0_step 48 = .ok (.aload_n 0, 1) := by decide +kernel
theorem dX0_step_49 : decode cX0_step 49 = .ok (.invokevirtual 74, 3) := by decide +kernel
theorem dX0_step_52 : decode cX0_step 52 = .ok (.ireturn, 1) := by decide +kernel
theorem dX0_step_53 : decode cX0_step 53 = .ok (.aload_n 0, 1) := by decide +kernel
theorem dX0_step_54 : decode cX0_step 54 = .ok (.invokevirtual 77, 3) := by decide +kernel
theorem dX0_step_57 : decode cX0_step 57 = .ok (.ireturn, 1) := by decide +kernel
theorem dX0_step_58 : decode cX0_step 58 = .ok (.aload_n 0, 1) := by decide +kernel
theorem dX0_step_59 : decode cX0_step 59 = .ok (.invokevirtual 80, 3) := by decide +kernel
theorem dX0_step_62 : decode cX0_step 62 = .ok (.ireturn, 1) := by decide +kernel
theorem dX0_step_63 : decode cX0_step 63 = .ok (.aload_n 0, 1) := by decide +kernel
theorem dX0_step_64 : decode cX0_step 64 = .ok (.invokevirtual 83, 3) := by decide +kernel
theorem dX0_step_67 : decode cX0_step 67 = .ok (.ireturn, 1) := by decide +kernel
theorem dX0_step_68 : decode cX0_step 68 = .ok (.aload_n 0, 1) := by decide +kernel
theorem dX0_step_69 : decode cX0_step 69 = .ok (.invokevirtual 86, 3) := by decide +kernel
theorem dX0_step_72 : decode cX0_step 72 = .ok (.ireturn, 1) := by decide +kernel
theorem dX0_step_73 : decode cX0_step 73 = .ok (.aload_n 0, 1) := by decide +kernel
theorem dX0_step_74 : decode cX0_step 74 = .ok (.invokevirtual 89, 3) := by decide +kernel
theorem dX0_step_77 : decode cX0_step 77 = .ok (.ireturn, 1) := by decide +kernel
theorem dX0_step_78 : decode cX0_step 78 = .ok (.aload_n 0, 1) := by decide +kernel
theorem dX0_step_79 : decode cX0_step 79 = .ok (.invokevirtual 92, 3) := by decide +kernel
theorem dX0_step_82 : decode cX0_step 82 = .ok (.ireturn, 1) := by decide +kernel
theorem dX0_step_83 : decode cX0_step 83 = .ok (.iconst 1, 1) := by decide +kernel
theorem dX0_step_84 : decode cX0_step 84 = .ok (.ireturn, 1) := by decide +kernel
theorem dX0_moved_0 : decode cX0_moved 0 = .ok (.aload_n 0, 1) := by decide +kernel
theorem dX0_moved_1 : decode cX0_moved 1 = .ok (.getfield 38, 3) := by decide +kernel
theorem dX0_moved_4 : decode cX0_moved 4 = .ok (.ifCond .eq 9, 3) := by decide +kernel
theorem dX0_moved_7 : decode cX0_moved 7 = .ok (.iload_n 1, 1) := by decide +kernel
theorem dX0_moved_8 : decode cX0_moved 8 = .ok (.iload_n 2, 1) := by decide +kernel
theorem dX0_moved_9 : decode cX0_moved 9 = .ok (.iadd, 1) := by decide +kernel
theorem dX0_moved_10 : decode cX0_moved 10 = .ok (.goto 6, 3) := by decide +kernel
theorem dX0_moved_13 : decode cX0_moved 13 = .ok (.iload_n 1, 1) := by decide +kernel
theorem dX0_moved_14 : decode cX0_moved 14 = .ok (.iload_n 2, 1) := by decide +kernel
theorem dX0_moved_15 : decode cX0_moved 15 = .ok (.isub, 1) := by decide +kernel
theorem dX0_moved_16 : decode cX0_moved 16 = .ok (.ireturn, 1) := by decide +kernel
set_option maxRecDepth 20000 in
theorem ggX0_stepDelta_X1_at : GoodIn wsX0_stepDelta wsX1_at := goodIn_r _ [11, 12, 33, 34] (by decide +kernel) (by decide +kernel)
set_option maxRecDepth 20000 in
theorem gX0_stepDelta_X1_at : GoodIn wsX0_stepDelta (wsV RX0 95 RX1 yX1_at wsX1_at) := goodIn_app (goodIn_of _ (by decide +kernel)) ggX0_stepDelta_X1_at
set_option maxRecDepth 20000 in
theorem ggX0_stepDelta_X0_moved : GoodIn wsX0_stepDelta wsX0_moved := goodIn_r _ [17, 6, 22, 23, 24, 25, 26, 27, 28, 29, 30, 31, 32] (by decide +kernel) (by decide +kernel)
set_option maxRecDepth 20000 in
theorem gX0_stepDelta_X0_moved : GoodIn wsX0_stepDelta (wsV RX0 99 RX0 yX0_moved wsX0_moved) := goodIn_app (goodIn_of _ (by decide +kernel)) ggX0_stepDelta_X0_moved
set_option maxRecDepth 20000 in
theorem ggX0_stepDelta_X1_set : GoodIn wsX0_stepDelta wsX1_set := goodIn_r _ [21, 12, 33, 34] (by decide +kernel) (by decide +kernel)
set_option maxRecDepth 20000 in
theorem gX0_stepDelta_X1_set : GoodIn wsX0_stepDelta (wsV RX0 103 RX1 yX1_set wsX1_set) := goodIn_app (goodIn_of _ (by decide +kernel)) ggX0_stepDelta_X1_set
theorem dX0_stepDelta_0 : decode cX0_stepDelta 0 = .ok (.aload_n 0, 1) := by decide +kernel
theorem dX0_stepDelta_1 : decode cX0_stepDelta 1 = .ok (.getfield 42, 3) := by decide +kernel
theorem dX0_stepDelta_4 : decode cX0_stepDelta 4 = .ok (.bipush 31, 2) := by decide +kernel
theorem dX0_stepDelta_6 : decode cX0_stepDelta 6 = .ok (.iand, 1) := by decide +kernel
theorem dX0_stepDelta_7 : decode cX0_stepDelta 7 = .ok (.istore_n 1, 1) := by decide +kernel
theorem dX0_stepDelta_8 : decode cX0_stepDelta 8 = .ok (.aload_n 0, 1) := by decide +kernel
theorem dX0_stepDelta_9 : decode cX0_stepDelta 9 = .ok (.getfield 20, 3) := by decide +kernel
theorem dX0_stepDelta_12 : decode cX0_stepDelta 12 = .ok (.aload_n 0, 1) := by decide +kernel
theorem dX0_stepDelta_13 : decode cX0_stepDelta 13 = .ok (.getfield 42, 3) := by decide +kernel
theorem dX0_stepDelta_16 : decode cX0_stepDelta 16 = .ok (.aload_n 0, 1) := by decide +kernel
theorem dX0_stepDelta_17 : decode cX0_stepDelta 17 = .ok (.getfield 24, 3) := by decide +kernel
theorem dX0_stepDelta_20 : decode cX0_stepDelta 20 = .ok (.isub, 1) := by decide +kernel
theorem dX0_stepDelta_21 : decode cX0_stepDelta 21 = .ok (.bipush 31, 2) := by decide +kernel
theorem dX0_stepDelta_23 : decode cX0_stepDelta 23 = .ok (.iand, 1) := by decide +kernel
theorem dX0_stepDelta_24 : decode cX0_stepDelta 24 = .ok (.iaload, 1) := by decide +kernel
theorem dX0_stepDelta_25 : decode cX0_stepDelta 25 = .ok (.istore_n 2, 1) := by decide +kernel
theorem dX0_stepDelta_26 : decode cX0_stepDelta 26 = .ok (.aload_n 0, 1) := by decide +kernel
theorem dX0_stepDelta_27 : decode cX0_stepDelta 27 = .ok (.getfield 14, 3) := by decide +kernel
theorem dX0_stepDelta_30 : decode cX0_stepDelta 30 = .ok (.aload_n 0, 1) := by decide +kernel
theorem dX0_stepDelta_31 : decode cX0_stepDelta 31 = .ok (.getfield 65, 3) := by decide +kernel
theorem dX0_stepDelta_34 : decode cX0_stepDelta 34 = .ok (.invokevirtual 95, 3) := by decide +kernel
theorem dX0_stepDelta_37 : decode cX0_stepDelta 37 = .ok (.istore_n 3, 1) := by decide +kernel
theorem dX0_stepDelta_38 : decode cX0_stepDelta 38 = .ok (.aload_n 0, 1) := by decide +kernel
theorem dX0_stepDelta_39 : decode cX0_stepDelta 39 = .ok (.getfield 14, 3) := by decide +kernel
theorem dX0_stepDelta_42 : decode cX0_stepDelta 42 = .ok (.aload_n 0, 1) := by decide +kernel
theorem dX0_stepDelta_43 : decode cX0_stepDelta 43 = .ok (.getfield 65, 3) := by decide +kernel
theorem dX0_stepDelta_46 : decode cX0_stepDelta 46 = .ok (.aload_n 0, 1) := by decide +kernel
theorem dX0_stepDelta_47 : decode cX0_stepDelta 47 = .ok (.iload_n 3, 1) := by decide +kernel
theorem dX0_stepDelta_48 : decode cX0_stepDelta 48 = .ok (.iload_n 2, 1) := by decide +kernel
theorem dX0_stepDelta_49 : decode cX0_stepDelta 49 = .ok (.ineg, 1) := by decide +kernel
theorem dX0_stepDelta_50 : decode cX0_stepDelta 50 = .ok (.invokevirtual 99, 3) := by decide +kernel
theorem dX0_stepDelta_53 : decode cX0_stepDelta 53 = .ok (.invokevirtual 103, 3) := by decide +kernel
theorem dX0_stepDelta_56 : decode cX0_stepDelta 56 = .ok (.aload_n 0, 1) := by decide +kernel
theorem dX0_stepDelta_57 : decode cX0_stepDelta 57 = .ok (.getfield 20, 3) := by decide +kernel
theorem dX0_stepDelta_60 : decode cX0_stepDelta 60 = .ok (.iload_n 1, 1) := by decide +kernel
theorem dX0_stepDelta_61 : decode cX0_stepDelta 61 = .ok (.aload_n 0, 1) := by decide +kernel
theorem dX0_stepDelta_62 : decode cX0_stepDelta 62 = .ok (.getfield 38, 3) := by decide +kernel
theorem dX0_stepDelta_65 : decode cX0_stepDelta 65 = .ok (.ifCond .eq 7, 3) := by decide +kernel
theorem dX0_stepDelta_68 : decode cX0_stepDelta 68 = .ok (.iload_n 3, 1) := by decide +kernel
theorem dX0_stepDelta_69 : decode cX0_stepDelta 69 = .ok (.goto 14, 3) := by decide +kernel
theorem dX0_stepDelta_72 : decode cX0_stepDelta 72 = .ok (.aload_n 0, 1) := by decide +kernel
theorem dX0_stepDelta_73 : decode cX0_stepDelta 73 = .ok (.getfield 14, 3) := by decide +kernel
theorem dX0_stepDelta_76 : decode cX0_stepDelta 76 = .ok (.aload_n 0, 1) := by decide +kernel
theorem dX0_stepDelta_77 : decode cX0_stepDelta 77 = .ok (.getfield 65, 3) := by decide +kernel
theorem dX0_stepDelta_80 : decode cX0_stepDelta 80 = .ok (.invokevirtual 95, 3) := by decide +kernel
theorem dX0_stepDelta_83 : decode cX0_stepDelta 83 = .ok (.iastore, 1) := by decide +kernel
theorem dX0_stepDelta_84 : decode cX0_stepDelta 84 = .ok (.iconst 1, 1) := by decide +kernel
theorem dX0_stepDelta_85 : decode cX0_stepDelta 85 = .ok (.ireturn, 1) := by decide +kernel
set_option maxRecDepth 20000 in
theorem ggX0_stepArm_X1_lowestFirst : GoodIn wsX0_stepArm wsX1_lowestFirst := goodIn_r _ [11, 12, 34, 35] (by decide +kernel) (by decide +kernel)
set_option maxRecDepth 20000 in
theorem gX0_stepArm_X1_lowestFirst : GoodIn wsX0_stepArm (wsV RX0 107 RX1 yX1_lowestFirst wsX1_lowestFirst) := goodIn_app (goodIn_of _ (by decide +kernel)) ggX0_stepArm_X1_lowestFirst
set_option maxRecDepth 20000 in
theorem ggX0_stepArm_X0_moved : GoodIn wsX0_stepArm wsX0_moved := goodIn_r _ [17, 18, 23, 24, 25, 26, 27, 28, 29, 30, 31, 32, 33] (by decide +kernel) (by decide +kernel)
set_option maxRecDepth 20000 in
theorem gX0_stepArm_X0_moved : GoodIn wsX0_stepArm (wsV RX0 99 RX0 yX0_moved wsX0_moved) := goodIn_app (goodIn_of _ (by decide +kernel)) ggX0_stepArm_X0_moved
set_option maxRecDepth 20000 in
theorem ggX0_stepArm_X1_setLowestFirst : GoodIn wsX0_stepArm wsX1_setLowestFirst := goodIn_r _ [22, 12, 34, 35] (by decide +kernel) (by decide +kernel)
set_option maxRecDepth 20000 in
theorem gX0_stepArm_X1_setLowestFirst : GoodIn wsX0_stepArm (wsV RX0 112 RX1 yX1_setLowestFirst wsX1_setLowestFirst) := goodIn_app (goodIn_of _ (by decide +kernel)) ggX0_stepArm_X1_setLowestFirst
theorem dX0_stepArm_0 : decode cX0_stepArm 0 = .ok (.aload_n 0, 1) := by decide +kernel
theorem dX0_stepArm_1 : decode cX0_stepArm 1 = .ok (.getfield 14, 3) := by decide +kernel
theorem dX0_stepArm_4 : decode cX0_stepArm 4 = .ok (.aload_n 0, 1) := by decide +kernel
theorem dX0_stepArm_5 : decode cX0_stepArm 5 = .ok (.getfield 65, 3) := by decide +kernel
theorem dX0_stepArm_8 : decode cX0_stepArm 8 = .ok (.invokevirtual 107, 3) := by decide +kernel
theorem dX0_stepArm_11 : decode cX0_stepArm 11 = .ok (.istore_n 1, 1) := by decide +kernel
theorem dX0_stepArm_12 : decode cX0_stepArm 12 = .ok (.iload_n 1, 1) := by decide +kernel
theorem dX0_stepArm_13 : decode cX0_stepArm 13 = .ok (.bipush 24, 2) := by decide +kernel
theorem dX0_stepArm_15 : decode cX0_stepArm 15 = .ok (.iushr, 1) := by decide +kernel
theorem dX0_stepArm_16 : decode cX0_stepArm 16 = .ok (.sipush 235, 3) := by decide +kernel
theorem dX0_stepArm_19 : decode cX0_stepArm 19 = .ok (.if_icmp .ne 53, 3) := by decide +kernel
theorem dX0_stepArm_22 : decode cX0_stepArm 22 = .ok (.iload_n 1, 1) := by decide +kernel
theorem dX0_stepArm_23 : decode cX0_stepArm 23 = .ok (.ldc 110, 2) := by decide +kernel
theorem dX0_stepArm_25 : decode cX0_stepArm 25 = .ok (.iand, 1) := by decide +kernel
theorem dX0_stepArm_26 : decode cX0_stepArm 26 = .ok (.istore_n 2, 1) := by decide +kernel
end
section
theorem dX0_stepArm_27 : decode cX0_stepArm 27 = .ok (.aload_n 0, 1) := by decide +kernel
theorem dX0_stepArm_28 : decode cX0_stepArm 28 = .ok (.iconst 4, 1) := by decide +kernel
theorem dX0_stepArm_29 : decode cX0_stepArm 29 = .ok (.iload_n 2, 1) := by decide +kernel
theorem dX0_stepArm_30 : decode cX0_stepArm 30 = .ok (.imul, 1) := by decide +kernel
theorem dX0_stepArm_31 : decode cX0_stepArm 31 = .ok (.aload_n 0, 1) := by decide +kernel
theorem dX0_stepArm_32 : decode cX0_stepArm 32 = .ok (.getfield 42, 3) := by decide +kernel
theorem dX0_stepArm_35 : decode cX0_stepArm 35 = .ok (.bipush 8, 2) := by decide +kernel
theorem dX0_stepArm_37 : decode cX0_stepArm 37 = .ok (.iadd, 1) := by decide +kernel
theorem dX0_stepArm_38 : decode cX0_stepArm 38 = .ok (.invokevirtual 99, 3) := by decide +kernel
theorem dX0_stepArm_41 : decode cX0_stepArm 41 = .ok (.iconst 2, 1) := by decide +kernel
theorem dX0_stepArm_42 : decode cX0_stepArm 42 = .ok (.iushr, 1) := by decide +kernel
theorem dX0_stepArm_43 : decode cX0_stepArm 43 = .ok (.istore_n 3, 1) := by decide +kernel
theorem dX0_stepArm_44 : decode cX0_stepArm 44 = .ok (.aload_n 0, 1) := by decide +kernel
theorem dX0_stepArm_45 : decode cX0_stepArm 45 = .ok (.getfield 14, 3) := by decide +kernel
theorem dX0_stepArm_48 : decode cX0_stepArm 48 = .ok (.aload_n 0, 1) := by decide +kernel
theorem dX0_stepArm_49 : decode cX0_stepArm 49 = .ok (.getfield 65, 3) := by decide +kernel
theorem dX0_stepArm_52 : decode cX0_stepArm 52 = .ok (.ldc 111, 2) := by decide +kernel
theorem dX0_stepArm_54 : decode cX0_stepArm 54 = .ok (.iload_n 3, 1) := by decide +kernel
theorem dX0_stepArm_55 : decode cX0_stepArm 55 = .ok (.ldc 110, 2) := by decide +kernel
theorem dX0_stepArm_57 : decode cX0_stepArm 57 = .ok (.iand, 1) := by decide +kernel
theorem dX0_stepArm_58 : decode cX0_stepArm 58 = .ok (.ior, 1) := by decide +kernel
theorem dX0_stepArm_59 : decode cX0_stepArm 59 = .ok (.invokevirtual 112, 3) := by decide +kernel
theorem dX0_stepArm_62 : decode cX0_stepArm 62 = .ok (.aload_n 0, 1) := by decide +kernel
theorem dX0_stepArm_63 : decode cX0_stepArm 63 = .ok (.dup, 1) := by decide +kernel
theorem dX0_stepArm_64 : decode cX0_stepArm 64 = .ok (.getfield 48, 3) := by decide +kernel
theorem dX0_stepArm_67 : decode cX0_stepArm 67 = .ok (.iconst 1, 1) := by decide +kernel
theorem dX0_stepArm_68 : decode cX0_stepArm 68 = .ok (.iadd, 1) := by decide +kernel
theorem dX0_stepArm_69 : decode cX0_stepArm 69 = .ok (.putfield 48, 3) := by decide +kernel
theorem dX0_stepArm_72 : decode cX0_stepArm 72 = .ok (.iconst 4, 1) := by decide +kernel
theorem dX0_stepArm_73 : decode cX0_stepArm 73 = .ok (.ireturn, 1) := by decide +kernel
set_option maxRecDepth 20000 in
theorem ggX0_stepThumb_X1_at : GoodIn wsX0_stepThumb wsX1_at := goodIn_r _ [9, 10, 32, 33] (by decide +kernel) (by decide +kernel)
set_option maxRecDepth 20000 in
theorem gX0_stepThumb_X1_at : GoodIn wsX0_stepThumb (wsV RX0 95 RX1 yX1_at wsX1_at) := goodIn_app (goodIn_of _ (by decide +kernel)) ggX0_stepThumb_X1_at
set_option maxRecDepth 20000 in
theorem ggX0_stepThumb_X0_moved : GoodIn wsX0_stepThumb wsX0_moved := goodIn_r _ [15, 16, 21, 22, 23, 24, 25, 26, 27, 28, 29, 30, 31] (by decide +kernel) (by decide +kernel)
set_option maxRecDepth 20000 in
theorem gX0_stepThumb_X0_moved : GoodIn wsX0_stepThumb (wsV RX0 99 RX0 yX0_moved wsX0_moved) := goodIn_app (goodIn_of _ (by decide +kernel)) ggX0_stepThumb_X0_moved
set_option maxRecDepth 20000 in
theorem ggX0_stepThumb_X1_set : GoodIn wsX0_stepThumb wsX1_set := goodIn_r _ [20, 10, 32, 33] (by decide +kernel) (by decide +kernel)
set_option maxRecDepth 20000 in
theorem gX0_stepThumb_X1_set : GoodIn wsX0_stepThumb (wsV RX0 103 RX1 yX1_set wsX1_set) := goodIn_app (goodIn_of _ (by decide +kernel)) ggX0_stepThumb_X1_set
theorem dX0_stepThumb_0 : decode cX0_stepThumb 0 = .ok (.aload_n 0, 1) := by decide +kernel
theorem dX0_stepThumb_1 : decode cX0_stepThumb 1 = .ok (.getfield 14, 3) := by decide +kernel
theorem dX0_stepThumb_4 : decode cX0_stepThumb 4 = .ok (.aload_n 0, 1) := by decide +kernel
theorem dX0_stepThumb_5 : decode cX0_stepThumb 5 = .ok (.getfield 65, 3) := by decide +kernel
theorem dX0_stepThumb_8 : decode cX0_stepThumb 8 = .ok (.invokevirtual 95, 3) := by decide +kernel
theorem dX0_stepThumb_11 : decode cX0_stepThumb 11 = .ok (.istore_n 1, 1) := by decide +kernel
theorem dX0_stepThumb_12 : decode cX0_stepThumb 12 = .ok (.aload_n 0, 1) := by decide +kernel
theorem dX0_stepThumb_13 : decode cX0_stepThumb 13 = .ok (.getfield 14, 3) := by decide +kernel
theorem dX0_stepThumb_16 : decode cX0_stepThumb 16 = .ok (.aload_n 0, 1) := by decide +kernel
theorem dX0_stepThumb_17 : decode cX0_stepThumb 17 = .ok (.getfield 65, 3) := by decide +kernel
theorem dX0_stepThumb_20 : decode cX0_stepThumb 20 = .ok (.iconst 1, 1) := by decide +kernel
theorem dX0_stepThumb_21 : decode cX0_stepThumb 21 = .ok (.iadd, 1) := by decide +kernel
theorem dX0_stepThumb_22 : decode cX0_stepThumb 22 = .ok (.invokevirtual 95, 3) := by decide +kernel
theorem dX0_stepThumb_25 : decode cX0_stepThumb 25 = .ok (.istore_n 2, 1) := by decide +kernel
theorem dX0_stepThumb_26 : decode cX0_stepThumb 26 = .ok (.aload_n 0, 1) := by decide +kernel
theorem dX0_stepThumb_27 : decode cX0_stepThumb 27 = .ok (.getfield 14, 3) := by decide +kernel
theorem dX0_stepThumb_30 : decode cX0_stepThumb 30 = .ok (.aload_n 0, 1) := by decide +kernel
theorem dX0_stepThumb_31 : decode cX0_stepThumb 31 = .ok (.getfield 65, 3) := by decide +kernel
theorem dX0_stepThumb_34 : decode cX0_stepThumb 34 = .ok (.iconst 2, 1) := by decide +kernel
theorem dX0_stepThumb_35 : decode cX0_stepThumb 35 = .ok (.iadd, 1) := by decide +kernel
theorem dX0_stepThumb_36 : decode cX0_stepThumb 36 = .ok (.invokevirtual 95, 3) := by decide +kernel
theorem dX0_stepThumb_39 : decode cX0_stepThumb 39 = .ok (.istore_n 3, 1) := by decide +kernel
theorem dX0_stepThumb_40 : decode cX0_stepThumb 40 = .ok (.aload_n 0, 1) := by decide +kernel
theorem dX0_stepThumb_41 : decode cX0_stepThumb 41 = .ok (.getfield 14, 3) := by decide +kernel
theorem dX0_stepThumb_44 : decode cX0_stepThumb 44 = .ok (.aload_n 0, 1) := by decide +kernel
theorem dX0_stepThumb_45 : decode cX0_stepThumb 45 = .ok (.getfield 65, 3) := by decide +kernel
theorem dX0_stepThumb_48 : decode cX0_stepThumb 48 = .ok (.iconst 3, 1) := by decide +kernel
theorem dX0_stepThumb_49 : decode cX0_stepThumb 49 = .ok (.iadd, 1) := by decide +kernel
theorem dX0_stepThumb_50 : decode cX0_stepThumb 50 = .ok (.invokevirtual 95, 3) := by decide +kernel
theorem dX0_stepThumb_53 : decode cX0_stepThumb 53 = .ok (.istore 4, 2) := by decide +kernel
theorem dX0_stepThumb_55 : decode cX0_stepThumb 55 = .ok (.iload_n 2, 1) := by decide +kernel
theorem dX0_stepThumb_56 : decode cX0_stepThumb 56 = .ok (.iconst 3, 1) := by decide +kernel
theorem dX0_stepThumb_57 : decode cX0_stepThumb 57 = .ok (.iushr, 1) := by decide +kernel
theorem dX0_stepThumb_58 : decode cX0_stepThumb 58 = .ok (.bipush 30, 2) := by decide +kernel
theorem dX0_stepThumb_60 : decode cX0_stepThumb 60 = .ok (.if_icmp .ne 12, 3) := by decide +kernel
theorem dX0_stepThumb_63 : decode cX0_stepThumb 63 = .ok (.iload 4, 2) := by decide +kernel
theorem dX0_stepThumb_65 : decode cX0_stepThumb 65 = .ok (.iconst 3, 1) := by decide +kernel
theorem dX0_stepThumb_66 : decode cX0_stepThumb 66 = .ok (.iushr, 1) := by decide +kernel
theorem dX0_stepThumb_67 : decode cX0_stepThumb 67 = .ok (.bipush 31, 2) := by decide +kernel
theorem dX0_stepThumb_69 : decode cX0_stepThumb 69 = .ok (.if_icmp .eq 5, 3) := by decide +kernel
theorem dX0_stepThumb_72 : decode cX0_stepThumb 72 = .ok (.iconst 2, 1) := by decide +kernel
theorem dX0_stepThumb_73 : decode cX0_stepThumb 73 = .ok (.ireturn, 1) := by decide +kernel
theorem dX0_stepThumb_74 : decode cX0_stepThumb 74 = .ok (.iload_n 2, 1) := by decide +kernel
theorem dX0_stepThumb_75 : decode cX0_stepThumb 75 = .ok (.bipush 7, 2) := by decide +kernel
theorem dX0_stepThumb_77 : decode cX0_stepThumb 77 = .ok (.iand, 1) := by decide +kernel
theorem dX0_stepThumb_78 : decode cX0_stepThumb 78 = .ok (.bipush 19, 2) := by decide +kernel
theorem dX0_stepThumb_80 : decode cX0_stepThumb 80 = .ok (.ishl, 1) := by decide +kernel
theorem dX0_stepThumb_81 : decode cX0_stepThumb 81 = .ok (.iload_n 1, 1) := by decide +kernel
theorem dX0_stepThumb_82 : decode cX0_stepThumb 82 = .ok (.bipush 11, 2) := by decide +kernel
theorem dX0_stepThumb_84 : decode cX0_stepThumb 84 = .ok (.ishl, 1) := by decide +kernel
theorem dX0_stepThumb_85 : decode cX0_stepThumb 85 = .ok (.ior, 1) := by decide +kernel
theorem dX0_stepThumb_86 : decode cX0_stepThumb 86 = .ok (.iload 4, 2) := by decide +kernel
theorem dX0_stepThumb_88 : decode cX0_stepThumb 88 = .ok (.bipush 7, 2) := by decide +kernel
theorem dX0_stepThumb_90 : decode cX0_stepThumb 90 = .ok (.iand, 1) := by decide +kernel
theorem dX0_stepThumb_91 : decode cX0_stepThumb 91 = .ok (.bipush 8, 2) := by decide +kernel
theorem dX0_stepThumb_93 : decode cX0_stepThumb 93 = .ok (.ishl, 1) := by decide +kernel
theorem dX0_stepThumb_94 : decode cX0_stepThumb 94 = .ok (.ior, 1) := by decide +kernel
theorem dX0_stepThumb_95 : decode cX0_stepThumb 95 = .ok (.iload_n 3, 1) := by decide +kernel
theorem dX0_stepThumb_96 : decode cX0_stepThumb 96 = .ok (.ior, 1) := by decide +kernel
theorem dX0_stepThumb_97 : decode cX0_stepThumb 97 = .ok (.istore 5, 2) := by decide +kernel
theorem dX0_stepThumb_99 : decode cX0_stepThumb 99 = .ok (.aload_n 0, 1) := by decide +kernel
theorem dX0_stepThumb_100 : decode cX0_stepThumb 100 = .ok (.iconst 2, 1) := by decide +kernel
theorem dX0_stepThumb_101 : decode cX0_stepThumb 101 = .ok (.iload 5, 2) := by decide +kernel
theorem dX0_stepThumb_103 : decode cX0_stepThumb 103 = .ok (.imul, 1) := by decide +kernel
theorem dX0_stepThumb_104 : decode cX0_stepThumb 104 = .ok (.aload_n 0, 1) := by decide +kernel
theorem dX0_stepThumb_105 : decode cX0_stepThumb 105 = .ok (.getfield 42, 3) := by decide +kernel
theorem dX0_stepThumb_108 : decode cX0_stepThumb 108 = .ok (.iconst 4, 1) := by decide +kernel
theorem dX0_stepThumb_109 : decode cX0_stepThumb 109 = .ok (.iadd, 1) := by decide +kernel
theorem dX0_stepThumb_110 : decode cX0_stepThumb 110 = .ok (.invokevirtual 99, 3) := by decide +kernel
theorem dX0_stepThumb_113 : decode cX0_stepThumb 113 = .ok (.iconst 1, 1) := by decide +kernel
theorem dX0_stepThumb_114 : decode cX0_stepThumb 114 = .ok (.iushr, 1) := by decide +kernel
theorem dX0_stepThumb_115 : decode cX0_stepThumb 115 = .ok (.istore 6, 2) := by decide +kernel
theorem dX0_stepThumb_117 : decode cX0_stepThumb 117 = .ok (.aload_n 0, 1) := by decide +kernel
theorem dX0_stepThumb_118 : decode cX0_stepThumb 118 = .ok (.getfield 14, 3) := by decide +kernel
theorem dX0_stepThumb_121 : decode cX0_stepThumb 121 = .ok (.aload_n 0, 1) := by decide +kernel
theorem dX0_stepThumb_122 : decode cX0_stepThumb 122 = .ok (.getfield 65, 3) := by decide +kernel
theorem dX0_stepThumb_125 : decode cX0_stepThumb 125 = .ok (.iload 6, 2) := by decide +kernel
theorem dX0_stepThumb_127 : decode cX0_stepThumb 127 = .ok (.bipush 11, 2) := by decide +kernel
theorem dX0_stepThumb_129 : decode cX0_stepThumb 129 = .ok (.iushr, 1) := by decide +kernel
theorem dX0_stepThumb_130 : decode cX0_stepThumb 130 = .ok (.invokevirtual 103, 3) := by decide +kernel
theorem dX0_stepThumb_133 : decode cX0_stepThumb 133 = .ok (.aload_n 0, 1) := by decide +kernel
theorem dX0_stepThumb_134 : decode cX0_stepThumb 134 = .ok (.getfield 14, 3) := by decide +kernel
theorem dX0_stepThumb_137 : decode cX0_stepThumb 137 = .ok (.aload_n 0, 1) := by decide +kernel
theorem dX0_stepThumb_138 : decode cX0_stepThumb 138 = .ok (.getfield 65, 3) := by decide +kernel
theorem dX0_stepThumb_141 : decode cX0_stepThumb 141 = .ok (.iconst 1, 1) := by decide +kernel
theorem dX0_stepThumb_142 : decode cX0_stepThumb 142 = .ok (.iadd, 1) := by decide +kernel
theorem dX0_stepThumb_143 : decode cX0_stepThumb 143 = .ok (.sipush 240, 3) := by decide +kernel
theorem dX0_stepThumb_146 : decode cX0_stepThumb 146 = .ok (.iload 6, 2) := by decide +kernel
theorem dX0_stepThumb_148 : decode cX0_stepThumb 148 = .ok (.bipush 19, 2) := by decide +kernel
theorem dX0_stepThumb_150 : decode cX0_stepThumb 150 = .ok (.iushr, 1) := by decide +kernel
theorem dX0_stepThumb_151 : decode cX0_stepThumb 151 = .ok (.bipush 7, 2) := by decide +kernel
theorem dX0_stepThumb_153 : decode cX0_stepThumb 153 = .ok (.iand, 1) := by decide +kernel
theorem dX0_stepThumb_154 : decode cX0_stepThumb 154 = .ok (.ior, 1) := by decide +kernel
theorem dX0_stepThumb_155 : decode cX0_stepThumb 155 = .ok (.invokevirtual 103, 3) := by decide +kernel
theorem dX0_stepThumb_158 : decode cX0_stepThumb 158 = .ok (.aload_n 0, 1) := by decide +kernel
theorem dX0_stepThumb_159 : decode cX0_stepThumb 159 = .ok (.getfield 14, 3) := by decide +kernel
theorem dX0_stepThumb_162 : decode cX0_stepThumb 162 = .ok (.aload_n 0, 1) := by decide +kernel
theorem dX0_stepThumb_163 : decode cX0_stepThumb 163 = .ok (.getfield 65, 3) := by decide +kernel
theorem dX0_stepThumb_166 : decode cX0_stepThumb 166 = .ok (.iconst 2, 1) := by decide +kernel
theorem dX0_stepThumb_167 : decode cX0_stepThumb 167 = .ok (.iadd, 1) := by decide +kernel
theorem dX0_stepThumb_168 : decode cX0_stepThumb 168 = .ok (.iload 6, 2) := by decide +kernel
theorem dX0_stepThumb_170 : decode cX0_stepThumb 170 = .ok (.invokevirtual 103, 3) := by decide +kernel
theorem dX0_stepThumb_173 : decode cX0_stepThumb 173 = .ok (.aload_n 0, 1) := by decide +kernel
theorem dX0_stepThumb_174 : decode cX0_stepThumb 174 = .ok (.getfield 14, 3) := by decide +kernel
theorem dX0_stepThumb_177 : decode cX0_stepThumb 177 = .ok (.aload_n 0, 1) := by decide +kernel
theorem dX0_stepThumb_178 : decode cX0_stepThumb 178 = .ok (.getfield 65, 3) := by decide +kernel
theorem dX0_stepThumb_181 : decode cX0_stepThumb 181 = .ok (.iconst 3, 1) := by decide +kernel
theorem dX0_stepThumb_182 : decode cX0_stepThumb 182 = .ok (.iadd, 1) := by decide +kernel
theorem dX0_stepThumb_183 : decode cX0_stepThumb 183 = .ok (.sipush 248, 3) := by decide +kernel
theorem dX0_stepThumb_186 : decode cX0_stepThumb 186 = .ok (.iload 6, 2) := by decide +kernel
theorem dX0_stepThumb_188 : decode cX0_stepThumb 188 = .ok (.bipush 8, 2) := by decide +kernel
theorem dX0_stepThumb_190 : decode cX0_stepThumb 190 = .ok (.iushr, 1) := by decide +kernel
theorem dX0_stepThumb_191 : decode cX0_stepThumb 191 = .ok (.bipush 7, 2) := by decide +kernel
theorem dX0_stepThumb_193 : decode cX0_stepThumb 193 = .ok (.iand, 1) := by decide +kernel
theorem dX0_stepThumb_194 : decode cX0_stepThumb 194 = .ok (.ior, 1) := by decide +kernel
theorem dX0_stepThumb_195 : decode cX0_stepThumb 195 = .ok (.invokevirtual 103, 3) := by decide +kernel
theorem dX0_stepThumb_198 : decode cX0_stepThumb 198 = .ok (.aload_n 0, 1) := by decide +kernel
theorem dX0_stepThumb_199 : decode cX0_stepThumb 199 = .ok (.dup, 1) := by decide +kernel
theorem dX0_stepThumb_200 : decode cX0_stepThumb 200 = .ok (.getfield 48, 3) := by decide +kernel
theorem dX0_stepThumb_203 : decode cX0_stepThumb 203 = .ok (.iconst 1, 1) := by decide +kernel
theorem dX0_stepThumb_204 : decode cX0_stepThumb 204 = .ok (.iadd, 1) := by decide +kernel
theorem dX0_stepThumb_205 : decode cX0_stepThumb 205 = .ok (.putfield 48, 3) := by decide +kernel
theorem dX0_stepThumb_208 : decode cX0_stepThumb 208 = .ok (.iconst 4, 1) := by decide +kernel
theorem dX0_stepThumb_209 : decode cX0_stepThumb 209 = .ok (.ireturn, 1) := by decide +kernel
set_option maxRecDepth 20000 in
theorem ggX0_stepPower_X1_highestFirst : GoodIn wsX0_stepPower wsX1_highestFirst := goodIn_r _ [11, 12, 34, 35] (by decide +kernel) (by decide +kernel)
set_option maxRecDepth 20000 in
theorem gX0_stepPower_X1_highestFirst : GoodIn wsX0_stepPower (wsV RX0 115 RX1 yX1_highestFirst wsX1_highestFirst) := goodIn_app (goodIn_of _ (by decide +kernel)) ggX0_stepPower_X1_highestFirst
set_option maxRecDepth 20000 in
theorem ggX0_stepPower_X0_moved : GoodIn wsX0_stepPower wsX0_moved := goodIn_r _ [17, 18, 23, 24, 25, 26, 27, 28, 29, 30, 31, 32, 33] (by decide +kernel) (by decide +kernel)
set_option maxRecDepth 20000 in
theorem gX0_stepPower_X0_moved : GoodIn wsX0_stepPower (wsV RX0 99 RX0 yX0_moved wsX0_moved) := goodIn_app (goodIn_of _ (by decide +kernel)) ggX0_stepPower_X0_moved
set_option maxRecDepth 20000 in
theorem ggX0_stepPower_X1_setHighestFirst : GoodIn wsX0_stepPower wsX1_setHighestFirst := goodIn_r _ [22, 12, 34, 35] (by decide +kernel) (by decide +kernel)
set_option maxRecDepth 20000 in
theorem gX0_stepPower_X1_setHighestFirst : GoodIn wsX0_stepPower (wsV RX0 120 RX1 yX1_setHighestFirst wsX1_setHighestFirst) := goodIn_app (goodIn_of _ (by decide +kernel)) ggX0_stepPower_X1_setHighestFirst
theorem dX0_stepPower_0 : decode cX0_stepPower 0 = .ok (.aload_n 0, 1) := by decide +kernel
theorem dX0_stepPower_1 : decode cX0_stepPower 1 = .ok (.getfield 14, 3) := by decide +kernel
theorem dX0_stepPower_4 : decode cX0_stepPower 4 = .ok (.aload_n 0, 1) := by decide +kernel
theorem dX0_stepPower_5 : decode cX0_stepPower 5 = .ok (.getfield 65, 3) := by decide +kernel
theorem dX0_stepPower_8 : decode cX0_stepPower 8 = .ok (.invokevirtual 115, 3) := by decide +kernel
theorem dX0_stepPower_11 : decode cX0_stepPower 11 = .ok (.istore_n 1, 1) := by decide +kernel
theorem dX0_stepPower_12 : decode cX0_stepPower 12 = .ok (.iload_n 1, 1) := by decide +kernel
theorem dX0_stepPower_13 : decode cX0_stepPower 13 = .ok (.bipush 26, 2) := by decide +kernel
theorem dX0_stepPower_15 : decode cX0_stepPower 15 = .ok (.iushr, 1) := by decide +kernel
theorem dX0_stepPower_16 : decode cX0_stepPower 16 = .ok (.bipush 18, 2) := by decide +kernel
theorem dX0_stepPower_18 : decode cX0_stepPower 18 = .ok (.if_icmp .ne 53, 3) := by decide +kernel
theorem dX0_stepPower_21 : decode cX0_stepPower 21 = .ok (.iload_n 1, 1) := by decide +kernel
theorem dX0_stepPower_22 : decode cX0_stepPower 22 = .ok (.iconst 3, 1) := by decide +kernel
theorem dX0_stepPower_23 : decode cX0_stepPower 23 = .ok (.iand, 1) := by decide +kernel
theorem dX0_stepPower_24 : decode cX0_stepPower 24 = .ok (.iconst 1, 1) := by decide +kernel
theorem dX0_stepPower_25 : decode cX0_stepPower 25 = .ok (.if_icmp .ne 46, 3) := by decide +kernel
theorem dX0_stepPower_28 : decode cX0_stepPower 28 = .ok (.aload_n 0, 1) := by decide +kernel
theorem dX0_stepPower_29 : decode cX0_stepPower 29 = .ok (.iload_n 1, 1) := by decide +kernel
theorem dX0_stepPower_30 : decode cX0_stepPower 30 = .ok (.ldc 118, 2) := by decide +kernel
theorem dX0_stepPower_32 : decode cX0_stepPower 32 = .ok (.iand, 1) := by decide +kernel
theorem dX0_stepPower_33 : decode cX0_stepPower 33 = .ok (.aload_n 0, 1) := by decide +kernel
theorem dX0_stepPower_34 : decode cX0_stepPower 34 = .ok (.getfield 42, 3) := by decide +kernel
theorem dX0_stepPower_37 : decode cX0_stepPower 37 = .ok (.invokevirtual 99, 3) := by decide +kernel
theorem dX0_stepPower_40 : decode cX0_stepPower 40 = .ok (.istore_n 2, 1) := by decide +kernel
theorem dX0_stepPower_41 : decode cX0_stepPower 41 = .ok (.aload_n 0, 1) := by decide +kernel
theorem dX0_stepPower_42 : decode cX0_stepPower 42 = .ok (.getfield 14, 3) := by decide +kernel
theorem dX0_stepPower_45 : decode cX0_stepPower 45 = .ok (.aload_n 0, 1) := by decide +kernel
theorem dX0_stepPower_46 : decode cX0_stepPower 46 = .ok (.getfield 65, 3) := by decide +kernel
theorem dX0_stepPower_49 : decode cX0_stepPower 49 = .ok (.iload_n 1, 1) := by decide +kernel
theorem dX0_stepPower_50 : decode cX0_stepPower 50 = .ok (.ldc 119, 2) := by decide +kernel
theorem dX0_stepPower_52 : decode cX0_stepPower 52 = .ok (.iand, 1) := by decide +kernel
theorem dX0_stepPower_53 : decode cX0_stepPower 53 = .ok (.iload_n 2, 1) := by decide +kernel
theorem dX0_stepPower_54 : decode cX0_stepPower 54 = .ok (.ldc 118, 2) := by decide +kernel
theorem dX0_stepPower_56 : decode cX0_stepPower 56 = .ok (.iand, 1) := by decide +kernel
theorem dX0_stepPower_57 : decode cX0_stepPower 57 = .ok (.ior, 1) := by decide +kernel
theorem dX0_stepPower_58 : decode cX0_stepPower 58 = .ok (.invokevirtual 120, 3) := by decide +kernel
theorem dX0_stepPower_61 : decode cX0_stepPower 61 = .ok (.aload_n 0, 1) := by decide +kernel
theorem dX0_stepPower_62 : decode cX0_stepPower 62 = .ok (.dup, 1) := by decide +kernel
theorem dX0_stepPower_63 : decode cX0_stepPower 63 = .ok (.getfield 48, 3) := by decide +kernel
theorem dX0_stepPower_66 : decode cX0_stepPower 66 = .ok (.iconst 1, 1) := by decide +kernel
theorem dX0_stepPower_67 : decode cX0_stepPower 67 = .ok (.iadd, 1) := by decide +kernel
theorem dX0_stepPower_68 : decode cX0_stepPower 68 = .ok (.putfield 48, 3) := by decide +kernel
theorem dX0_stepPower_71 : decode cX0_stepPower 71 = .ok (.iconst 4, 1) := by decide +kernel
theorem dX0_stepPower_72 : decode cX0_stepPower 72 = .ok (.ireturn, 1) := by decide +kernel
set_option maxRecDepth 20000 in
theorem ggX0_stepSparc_X1_highestFirst : GoodIn wsX0_stepSparc wsX1_highestFirst := goodIn_r _ [12, 13, 35, 36] (by decide +kernel) (by decide +kernel)
set_option maxRecDepth 20000 in
theorem gX0_stepSparc_X1_highestFirst : GoodIn wsX0_stepSparc (wsV RX0 115 RX1 yX1_highestFirst wsX1_highestFirst) := goodIn_app (goodIn_of _ (by decide +kernel)) ggX0_stepSparc_X1_highestFirst
set_option maxRecDepth 20000 in
theorem ggX0_stepSparc_X0_moved : GoodIn wsX0_stepSparc wsX0_moved := goodIn_r _ [18, 19, 24, 25, 26, 27, 28, 29, 30, 31, 32, 33, 34] (by decide +kernel) (by decide +kernel)
set_option maxRecDepth 20000 in
theorem gX0_stepSparc_X0_moved : GoodIn wsX0_stepSparc (wsV RX0 99 RX0 yX0_moved wsX0_moved) := goodIn_app (goodIn_of _ (by decide +kernel)) ggX0_stepSparc_X0_moved
set_option maxRecDepth 20000 in
theorem ggX0_stepSparc_X1_setHighestFirst : GoodIn wsX0_stepSparc wsX1_setHighestFirst := goodIn_r _ [23, 13, 35, 36] (by decide +kernel) (by decide +kernel)
set_option maxRecDepth 20000 in
theorem gX0_stepSparc_X1_setHighestFirst : GoodIn wsX0_stepSparc (wsV RX0 120 RX1 yX1_setHighestFirst wsX1_setHighestFirst) := goodIn_app (goodIn_of _ (by decide +kernel)) ggX0_stepSparc_X1_setHighestFirst
theorem dX0_stepSparc_0 : decode cX0_stepSparc 0 = .ok (.aload_n 0, 1) := by decide +kernel
theorem dX0_stepSparc_1 : decode cX0_stepSparc 1 = .ok (.getfield 14, 3) := by decide +kernel
theorem dX0_stepSparc_4 : decode cX0_stepSparc 4 = .ok (.aload_n 0, 1) := by decide +kernel
theorem dX0_stepSparc_5 : decode cX0_stepSparc 5 = .ok (.getfield 65, 3) := by decide +kernel
theorem dX0_stepSparc_8 : decode cX0_stepSparc 8 = .ok (.invokevirtual 115, 3) := by decide +kernel
theorem dX0_stepSparc_11 : decode cX0_stepSparc 11 = .ok (.istore_n 1, 1) := by decide +kernel
theorem dX0_stepSparc_12 : decode cX0_stepSparc 12 = .ok (.iload_n 1, 1) := by decide +kernel
theorem dX0_stepSparc_13 : decode cX0_stepSparc 13 = .ok (.bipush 22, 2) := by decide +kernel
theorem dX0_stepSparc_15 : decode cX0_stepSparc 15 = .ok (.iushr, 1) := by decide +kernel
theorem dX0_stepSparc_16 : decode cX0_stepSparc 16 = .ok (.istore_n 2, 1) := by decide +kernel
theorem dX0_stepSparc_17 : decode cX0_stepSparc 17 = .ok (.iload_n 2, 1) := by decide +kernel
theorem dX0_stepSparc_18 : decode cX0_stepSparc 18 = .ok (.sipush 256, 3) := by decide +kernel
theorem dX0_stepSparc_21 : decode cX0_stepSparc 21 = .ok (.if_icmp .eq 10, 3) := by decide +kernel
theorem dX0_stepSparc_24 : decode cX0_stepSparc 24 = .ok (.iload_n 2, 1) := by decide +kernel
theorem dX0_stepSparc_25 : decode cX0_stepSparc 25 = .ok (.sipush 511, 3) := by decide +kernel
theorem dX0_stepSparc_28 : decode cX0_stepSparc 28 = .ok (.if_icmp .ne 66, 3) := by decide +kernel
theorem dX0_stepSparc_31 : decode cX0_stepSparc 31 = .ok (.aload_n 0, 1) := by decide +kernel
theorem dX0_stepSparc_32 : decode cX0_stepSparc 32 = .ok (.iconst 4, 1) := by decide +kernel
theorem dX0_stepSparc_33 : decode cX0_stepSparc 33 = .ok (.iload_n 1, 1) := by decide +kernel
theorem dX0_stepSparc_34 : decode cX0_stepSparc 34 = .ok (.imul, 1) := by decide +kernel
theorem dX0_stepSparc_35 : decode cX0_stepSparc 35 = .ok (.aload_n 0, 1) := by decide +kernel
theorem dX0_stepSparc_36 : decode cX0_stepSparc 36 = .ok (.getfield 42, 3) := by decide +kernel
theorem dX0_stepSparc_39 : decode cX0_stepSparc 39 = .ok (.invokevirtual 99, 3) := by decide +kernel
theorem dX0_stepSparc_42 : decode cX0_stepSparc 42 = .ok (.iconst 2, 1) := by decide +kernel
theorem dX0_stepSparc_43 : decode cX0_stepSparc 43 = .ok (.iushr, 1) := by decide +kernel
theorem dX0_stepSparc_44 : decode cX0_stepSparc 44 = .ok (.istore_n 3, 1) := by decide +kernel
theorem dX0_stepSparc_45 : decode cX0_stepSparc 45 = .ok (.iload_n 3, 1) := by decide +kernel
theorem dX0_stepSparc_46 : decode cX0_stepSparc 46 = .ok (.bipush 22, 2) := by decide +kernel
theorem dX0_stepSparc_48 : decode cX0_stepSparc 48 = .ok (.iushr, 1) := by decide +kernel
theorem dX0_stepSparc_49 : decode cX0_stepSparc 49 = .ok (.iconst 1, 1) := by decide +kernel
theorem dX0_stepSparc_50 : decode cX0_stepSparc 50 = .ok (.iand, 1) := by decide +kernel
theorem dX0_stepSparc_51 : decode cX0_stepSparc 51 = .ok (.iconst 1, 1) := by decide +kernel
theorem dX0_stepSparc_52 : decode cX0_stepSparc 52 = .ok (.if_icmp .ne 8, 3) := by decide +kernel
theorem dX0_stepSparc_55 : decode cX0_stepSparc 55 = .ok (.ldc 123, 2) := by decide +kernel
theorem dX0_stepSparc_57 : decode cX0_stepSparc 57 = .ok (.goto 4, 3) := by decide +kernel
theorem dX0_stepSparc_60 : decode cX0_stepSparc 60 = .ok (.iconst 0, 1) := by decide +kernel
theorem dX0_stepSparc_61 : decode cX0_stepSparc 61 = .ok (.istore 4, 2) := by decide +kernel
theorem dX0_stepSparc_63 : decode cX0_stepSparc 63 = .ok (.aload_n 0, 1) := by decide +kernel
theorem dX0_stepSparc_64 : decode cX0_stepSparc 64 = .ok (.getfield 14, 3) := by decide +kernel
theorem dX0_stepSparc_67 : decode cX0_stepSparc 67 = .ok (.aload_n 0, 1) := by decide +kernel
theorem dX0_stepSparc_68 : decode cX0_stepSparc 68 = .ok (.getfield 65, 3) := by decide +kernel
theorem dX0_stepSparc_71 : decode cX0_stepSparc 71 = .ok (.ldc 124, 2) := by decide +kernel
theorem dX0_stepSparc_73 : decode cX0_stepSparc 73 = .ok (.iload 4, 2) := by decide +kernel
theorem dX0_stepSparc_75 : decode cX0_stepSparc 75 = .ok (.ior, 1) := by decide +kernel
theorem dX0_stepSparc_76 : decode cX0_stepSparc 76 = .ok (.iload_n 3, 1) := by decide +kernel
theorem dX0_stepSparc_77 : decode cX0_stepSparc 77 = .ok (.ldc 125, 2) := by decide +kernel
theorem dX0_stepSparc_79 : decode cX0_stepSparc 79 = .ok (.iand, 1) := by decide +kernel
theorem dX0_stepSparc_80 : decode cX0_stepSparc 80 = .ok (.ior, 1) := by decide +kernel
theorem dX0_stepSparc_81 : decode cX0_stepSparc 81 = .ok (.invokevirtual 120, 3) := by decide +kernel
theorem dX0_stepSparc_84 : decode cX0_stepSparc 84 = .ok (.aload_n 0, 1) := by decide +kernel
theorem dX0_stepSparc_85 : decode cX0_stepSparc 85 = .ok (.dup, 1) := by decide +kernel
theorem dX0_stepSparc_86 : decode cX0_stepSparc 86 = .ok (.getfield 48, 3) := by decide +kernel
theorem dX0_stepSparc_89 : decode cX0_stepSparc 89 = .ok (.iconst 1, 1) := by decide +kernel
theorem dX0_stepSparc_90 : decode cX0_stepSparc 90 = .ok (.iadd, 1) := by decide +kernel
theorem dX0_stepSparc_91 : decode cX0_stepSparc 91 = .ok (.putfield 48, 3) := by decide +kernel
theorem dX0_stepSparc_94 : decode cX0_stepSparc 94 = .ok (.iconst 4, 1) := by decide +kernel
theorem dX0_stepSparc_95 : decode cX0_stepSparc 95 = .ok (.ireturn, 1) := by decide +kernel
set_option maxRecDepth 20000 in
theorem ggX0_stepRisc_X1_lowestFirst : GoodIn wsX0_stepRisc wsX1_lowestFirst := goodIn_r _ [7, 8, 42, 43] (by decide +kernel) (by decide +kernel)
set_option maxRecDepth 20000 in
theorem gX0_stepRisc_X1_lowestFirst : GoodIn wsX0_stepRisc (wsV RX0 107 RX1 yX1_lowestFirst wsX1_lowestFirst) := goodIn_app (goodIn_of _ (by decide +kernel)) ggX0_stepRisc_X1_lowestFirst
set_option maxRecDepth 20000 in
theorem ggX0_stepRisc_X0_replaceRiscJump : GoodIn wsX0_stepRisc wsX0_replaceRiscJump := goodIn_r _ [13, 14, 15, 1, 2, 16, 17, 18, 19, 12, 20, 21, 22, 23, 24, 6, 25, 8, 31, 32, 33, 34, 35, 36, 37, 38, 39, 40, 41, 42, 43] (by decide +kernel) (by decide +kernel)
set_option maxRecDepth 20000 in
theorem gX0_stepRisc_X0_replaceRiscJump : GoodIn wsX0_stepRisc (wsV RX0 126 RX0 yX0_replaceRiscJump wsX0_replaceRiscJump) := goodIn_app (goodIn_of _ (by decide +kernel)) ggX0_stepRisc_X0_replaceRiscJump
set_option maxRecDepth 20000 in
theorem ggX0_stepRisc_X0_replaceRiscPair : GoodIn wsX0_stepRisc wsX0_replaceRiscPair := goodIn_r _ [29, 15, 1, 2, 30, 16, 17, 18, 19, 12, 20, 21, 22, 23, 24, 6, 25, 8, 31, 32, 33, 34, 35, 36, 37, 38, 39, 40, 41, 42, 43] (by decide +kernel) (by decide +kernel)
set_option maxRecDepth 20000 in
theorem gX0_stepRisc_X0_replaceRiscPair : GoodIn wsX0_stepRisc (wsV RX0 129 RX0 yX0_replaceRiscPair wsX0_replaceRiscPair) := goodIn_app (goodIn_of _ (by decide +kernel)) ggX0_stepRisc_X0_replaceRiscPair
theorem dX0_stepRisc_0 : decode cX0_stepRisc 0 = .ok (.aload_n 0, 1) := by decide +kernel
theorem dX0_stepRisc_1 : decode cX0_stepRisc 1 = .ok (.getfield 14, 3) := by decide +kernel
theorem dX0_stepRisc_4 : decode cX0_stepRisc 4 = .ok (.aload_n 0, 1) := by decide +kernel
theorem dX0_stepRisc_5 : decode cX0_stepRisc 5 = .ok (.getfield 65, 3) := by decide +kernel
theorem dX0_stepRisc_8 : decode cX0_stepRisc 8 = .ok (.invokevirtual 107, 3) := by decide +kernel
theorem dX0_stepRisc_11 : decode cX0_stepRisc 11 = .ok (.istore_n 1, 1) := by decide +kernel
theorem dX0_stepRisc_12 : decode cX0_stepRisc 12 = .ok (.iload_n 1, 1) := by decide +kernel
theorem dX0_stepRisc_13 : decode cX0_stepRisc 13 = .ok (.bipush 127, 2) := by decide +kernel
theorem dX0_stepRisc_15 : decode cX0_stepRisc 15 = .ok (.iand, 1) := by decide +kernel
theorem dX0_stepRisc_16 : decode cX0_stepRisc 16 = .ok (.istore_n 2, 1) := by decide +kernel
theorem dX0_stepRisc_17 : decode cX0_stepRisc 17 = .ok (.iload_n 1, 1) := by decide +kernel
theorem dX0_stepRisc_18 : decode cX0_stepRisc 18 = .ok (.bipush 7, 2) := by decide +kernel
theorem dX0_stepRisc_20 : decode cX0_stepRisc 20 = .ok (.iushr, 1) := by decide +kernel
theorem dX0_stepRisc_21 : decode cX0_stepRisc 21 = .ok (.bipush 31, 2) := by decide +kernel
theorem dX0_stepRisc_23 : decode cX0_stepRisc 23 = .ok (.iand, 1) := by decide +kernel
theorem dX0_stepRisc_24 : decode cX0_stepRisc 24 = .ok (.istore_n 3, 1) := by decide +kernel
theorem dX0_stepRisc_25 : decode cX0_stepRisc 25 = .ok (.iload_n 2, 1) := by decide +kernel
theorem dX0_stepRisc_26 : decode cX0_stepRisc 26 = .ok (.bipush 111, 2) := by decide +kernel
theorem dX0_stepRisc_28 : decode cX0_stepRisc 28 = .ok (.if_icmp .ne 20, 3) := by decide +kernel
theorem dX0_stepRisc_31 : decode cX0_stepRisc 31 = .ok (.iload_n 3, 1) := by decide +kernel
theorem dX0_stepRisc_32 : decode cX0_stepRisc 32 = .ok (.iconst 1, 1) := by decide +kernel
theorem dX0_stepRisc_33 : decode cX0_stepRisc 33 = .ok (.if_icmp .eq 8, 3) := by decide +kernel
theorem dX0_stepRisc_36 : decode cX0_stepRisc 36 = .ok (.iload_n 3, 1) := by decide +kernel
theorem dX0_stepRisc_37 : decode cX0_stepRisc 37 = .ok (.iconst 5, 1) := by decide +kernel
theorem dX0_stepRisc_38 : decode cX0_stepRisc 38 = .ok (.if_icmp .ne 10, 3) := by decide +kernel
theorem dX0_stepRisc_41 : decode cX0_stepRisc 41 = .ok (.aload_n 0, 1) := by decide +kernel
theorem dX0_stepRisc_42 : decode cX0_stepRisc 42 = .ok (.iload_n 1, 1) := by decide +kernel
theorem dX0_stepRisc_43 : decode cX0_stepRisc 43 = .ok (.invokevirtual 126, 3) := by decide +kernel
theorem dX0_stepRisc_46 : decode cX0_stepRisc 46 = .ok (.iconst 4, 1) := by decide +kernel
theorem dX0_stepRisc_47 : decode cX0_stepRisc 47 = .ok (.ireturn, 1) := by decide +kernel
theorem dX0_stepRisc_48 : decode cX0_stepRisc 48 = .ok (.iload_n 2, 1) := by decide +kernel
theorem dX0_stepRisc_49 : decode cX0_stepRisc 49 = .ok (.bipush 23, 2) := by decide +kernel
theorem dX0_stepRisc_51 : decode cX0_stepRisc 51 = .ok (.if_icmp .ne 29, 3) := by decide +kernel
theorem dX0_stepRisc_54 : decode cX0_stepRisc 54 = .ok (.iload_n 3, 1) := by decide +kernel
theorem dX0_stepRisc_55 : decode cX0_stepRisc 55 = .ok (.ifCond .eq 25, 3) := by decide +kernel
theorem dX0_stepRisc_58 : decode cX0_stepRisc 58 = .ok (.aload_n 0, 1) := by decide +kernel
theorem dX0_stepRisc_59 : decode cX0_stepRisc 59 = .ok (.iload_n 1, 1) := by decide +kernel
theorem dX0_stepRisc_60 : decode cX0_stepRisc 60 = .ok (.aload_n 0, 1) := by decide +kernel
theorem dX0_stepRisc_61 : decode cX0_stepRisc 61 = .ok (.getfield 14, 3) := by decide +kernel
theorem dX0_stepRisc_64 : decode cX0_stepRisc 64 = .ok (.aload_n 0, 1) := by decide +kernel
theorem dX0_stepRisc_65 : decode cX0_stepRisc 65 = .ok (.getfield 65, 3) := by decide +kernel
theorem dX0_stepRisc_68 : decode cX0_stepRisc 68 = .ok (.iconst 4, 1) := by decide +kernel
theorem dX0_stepRisc_69 : decode cX0_stepRisc 69 = .ok (.iadd, 1) := by decide +kernel
theorem dX0_stepRisc_70 : decode cX0_stepRisc 70 = .ok (.invokevirtual 107, 3) := by decide +kernel
theorem dX0_stepRisc_73 : decode cX0_stepRisc 73 = .ok (.iload_n 3, 1) := by decide +kernel
theorem dX0_stepRisc_74 : decode cX0_stepRisc 74 = .ok (.invokevirtual 129, 3) := by decide +kernel
theorem dX0_stepRisc_77 : decode cX0_stepRisc 77 = .ok (.bipush 8, 2) := by decide +kernel
theorem dX0_stepRisc_79 : decode cX0_stepRisc 79 = .ok (.ireturn, 1) := by decide +kernel
theorem dX0_stepRisc_80 : decode cX0_stepRisc 80 = .ok (.iconst 2, 1) := by decide +kernel
theorem dX0_stepRisc_81 : decode cX0_stepRisc 81 = .ok (.ireturn, 1) := by decide +kernel
set_option maxRecDepth 20000 in
theorem ggX0_replaceRiscJump_X0_moved : GoodIn wsX0_replaceRiscJump wsX0_moved := goodIn_r _ [10, 11, 18, 19, 20, 21, 22, 23, 24, 25, 26, 27, 28] (by decide +kernel) (by decide +kernel)
set_option maxRecDepth 20000 in
theorem gX0_replaceRiscJump_X0_moved : GoodIn wsX0_replaceRiscJump (wsV RX0 99 RX0 yX0_moved wsX0_moved) := goodIn_app (goodIn_of _ (by decide +kernel)) ggX0_replaceRiscJump_X0_moved
set_option maxRecDepth 20000 in
theorem ggX0_replaceRiscJump_X1_setLowestFirst : GoodIn wsX0_replaceRiscJump wsX1_setLowestFirst := goodIn_r _ [16, 17, 29, 30] (by decide +kernel) (by decide +kernel)
set_option maxRecDepth 20000 in
theorem gX0_replaceRiscJump_X1_setLowestFirst : GoodIn wsX0_replaceRiscJump (wsV RX0 112 RX1 yX1_setLowestFirst wsX1_setLowestFirst) := goodIn_app (goodIn_of _ (by decide +kernel)) ggX0_replaceRiscJump_X1_setLowestFirst
theorem dX0_replaceRiscJump_0 : decode cX0_replaceRiscJump 0 = .ok (.iload_n 1, 1) := by decide +kernel
theorem dX0_replaceRiscJump_1 : decode cX0_replaceRiscJump 1 = .ok (.bipush 31, 2) := by decide +kernel
theorem dX0_replaceRiscJump_3 : decode cX0_replaceRiscJump 3 = .ok (.iushr, 1) := by decide +kernel
theorem dX0_replaceRiscJump_4 : decode cX0_replaceRiscJump 4 = .ok (.bipush 20, 2) := by decide +kernel
theorem dX0_replaceRiscJump_6 : decode cX0_replaceRiscJump 6 = .ok (.ishl, 1) := by decide +kernel
theorem dX0_replaceRiscJump_7 : decode cX0_replaceRiscJump 7 = .ok (.iload_n 1, 1) := by decide +kernel
theorem dX0_replaceRiscJump_8 : decode cX0_replaceRiscJump 8 = .ok (.ldc 133, 2) := by decide +kernel
theorem dX0_replaceRiscJump_10 : decode cX0_replaceRiscJump 10 = .ok (.iand, 1) := by decide +kernel
theorem dX0_replaceRiscJump_11 : decode cX0_replaceRiscJump 11 = .ok (.ior, 1) := by decide +kernel
theorem dX0_replaceRiscJump_12 : decode cX0_replaceRiscJump 12 = .ok (.iload_n 1, 1) := by decide +kernel
theorem dX0_replaceRiscJump_13 : decode cX0_replaceRiscJump 13 = .ok (.bipush 20, 2) := by decide +kernel
theorem dX0_replaceRiscJump_15 : decode cX0_replaceRiscJump 15 = .ok (.iushr, 1) := by decide +kernel
theorem dX0_replaceRiscJump_16 : decode cX0_replaceRiscJump 16 = .ok (.iconst 1, 1) := by decide +kernel
theorem dX0_replaceRiscJump_17 : decode cX0_replaceRiscJump 17 = .ok (.iand, 1) := by decide +kernel
theorem dX0_replaceRiscJump_18 : decode cX0_replaceRiscJump 18 = .ok (.bipush 11, 2) := by decide +kernel
theorem dX0_replaceRiscJump_20 : decode cX0_replaceRiscJump 20 = .ok (.ishl, 1) := by decide +kernel
theorem dX0_replaceRiscJump_21 : decode cX0_replaceRiscJump 21 = .ok (.ior, 1) := by decide +kernel
theorem dX0_replaceRiscJump_22 : decode cX0_replaceRiscJump 22 = .ok (.iload_n 1, 1) := by decide +kernel
theorem dX0_replaceRiscJump_23 : decode cX0_replaceRiscJump 23 = .ok (.bipush 21, 2) := by decide +kernel
theorem dX0_replaceRiscJump_25 : decode cX0_replaceRiscJump 25 = .ok (.iushr, 1) := by decide +kernel
theorem dX0_replaceRiscJump_26 : decode cX0_replaceRiscJump 26 = .ok (.sipush 1023, 3) := by decide +kernel
theorem dX0_replaceRiscJump_29 : decode cX0_replaceRiscJump 29 = .ok (.iand, 1) := by decide +kernel
theorem dX0_replaceRiscJump_30 : decode cX0_replaceRiscJump 30 = .ok (.iconst 1, 1) := by decide +kernel
theorem dX0_replaceRiscJump_31 : decode cX0_replaceRiscJump 31 = .ok (.ishl, 1) := by decide +kernel
theorem dX0_replaceRiscJump_32 : decode cX0_replaceRiscJump 32 = .ok (.ior, 1) := by decide +kernel
theorem dX0_replaceRiscJump_33 : decode cX0_replaceRiscJump 33 = .ok (.istore_n 2, 1) := by decide +kernel
theorem dX0_replaceRiscJump_34 : decode cX0_replaceRiscJump 34 = .ok (.aload_n 0, 1) := by decide +kernel
theorem dX0_replaceRiscJump_35 : decode cX0_replaceRiscJump 35 = .ok (.iload_n 2, 1) := by decide +kernel
theorem dX0_replaceRiscJump_36 : decode cX0_replaceRiscJump 36 = .ok (.aload_n 0, 1) := by decide +kernel
theorem dX0_replaceRiscJump_37 : decode cX0_replaceRiscJump 37 = .ok (.getfield 42, 3) := by decide +kernel
theorem dX0_replaceRiscJump_40 : decode cX0_replaceRiscJump 40 = .ok (.invokevirtual 99, 3) := by decide +kernel
theorem dX0_replaceRiscJump_43 : decode cX0_replaceRiscJump 43 = .ok (.istore_n 3, 1) := by decide +kernel
theorem dX0_replaceRiscJump_44 : decode cX0_replaceRiscJump 44 = .ok (.iload_n 3, 1) := by decide +kernel
theorem dX0_replaceRiscJump_45 : decode cX0_replaceRiscJump 45 = .ok (.bipush 20, 2) := by decide +kernel
theorem dX0_replaceRiscJump_47 : decode cX0_replaceRiscJump 47 = .ok (.iushr, 1) := by decide +kernel
theorem dX0_replaceRiscJump_48 : decode cX0_replaceRiscJump 48 = .ok (.iconst 1, 1) := by decide +kernel
theorem dX0_replaceRiscJump_49 : decode cX0_replaceRiscJump 49 = .ok (.iand, 1) := by decide +kernel
theorem dX0_replaceRiscJump_50 : decode cX0_replaceRiscJump 50 = .ok (.bipush 31, 2) := by decide +kernel
theorem dX0_replaceRiscJump_52 : decode cX0_replaceRiscJump 52 = .ok (.ishl, 1) := by decide +kernel
theorem dX0_replaceRiscJump_53 : decode cX0_replaceRiscJump 53 = .ok (.iload_n 3, 1) := by decide +kernel
theorem dX0_replaceRiscJump_54 : decode cX0_replaceRiscJump 54 = .ok (.iconst 1, 1) := by decide +kernel
theorem dX0_replaceRiscJump_55 : decode cX0_replaceRiscJump 55 = .ok (.iushr, 1) := by decide +kernel
theorem dX0_replaceRiscJump_56 : decode cX0_replaceRiscJump 56 = .ok (.sipush 1023, 3) := by decide +kernel
theorem dX0_replaceRiscJump_59 : decode cX0_replaceRiscJump 59 = .ok (.iand, 1) := by decide +kernel
theorem dX0_replaceRiscJump_60 : decode cX0_replaceRiscJump 60 = .ok (.bipush 21, 2) := by decide +kernel
theorem dX0_replaceRiscJump_62 : decode cX0_replaceRiscJump 62 = .ok (.ishl, 1) := by decide +kernel
theorem dX0_replaceRiscJump_63 : decode cX0_replaceRiscJump 63 = .ok (.ior, 1) := by decide +kernel
theorem dX0_replaceRiscJump_64 : decode cX0_replaceRiscJump 64 = .ok (.iload_n 3, 1) := by decide +kernel
theorem dX0_replaceRiscJump_65 : decode cX0_replaceRiscJump 65 = .ok (.bipush 11, 2) := by decide +kernel
theorem dX0_replaceRiscJump_67 : decode cX0_replaceRiscJump 67 = .ok (.iushr, 1) := by decide +kernel
theorem dX0_replaceRiscJump_68 : decode cX0_replaceRiscJump 68 = .ok (.iconst 1, 1) := by decide +kernel
theorem dX0_replaceRiscJump_69 : decode cX0_replaceRiscJump 69 = .ok (.iand, 1) := by decide +kernel
theorem dX0_replaceRiscJump_70 : decode cX0_replaceRiscJump 70 = .ok (.bipush 20, 2) := by decide +kernel
theorem dX0_replaceRiscJump_72 : decode cX0_replaceRiscJump 72 = .ok (.ishl, 1) := by decide +kernel
theorem dX0_replaceRiscJump_73 : decode cX0_replaceRiscJump 73 = .ok (.ior, 1) := by decide +kernel
theorem dX0_replaceRiscJump_74 : decode cX0_replaceRiscJump 74 = .ok (.iload_n 3, 1) := by decide +kernel
theorem dX0_replaceRiscJump_75 : decode cX0_replaceRiscJump 75 = .ok (.ldc 133, 2) := by decide +kernel
theorem dX0_replaceRiscJump_77 : decode cX0_replaceRiscJump 77 = .ok (.iand, 1) := by decide +kernel
theorem dX0_replaceRiscJump_78 : decode cX0_replaceRiscJump 78 = .ok (.ior, 1) := by decide +kernel
theorem dX0_replaceRiscJump_79 : decode cX0_replaceRiscJump 79 = .ok (.istore 4, 2) := by decide +kernel
theorem dX0_replaceRiscJump_81 : decode cX0_replaceRiscJump 81 = .ok (.aload_n 0, 1) := by decide +kernel
theorem dX0_replaceRiscJump_82 : decode cX0_replaceRiscJump 82 = .ok (.getfield 14, 3) := by decide +kernel
theorem dX0_replaceRiscJump_85 : decode cX0_replaceRiscJump 85 = .ok (.aload_n 0, 1) := by decide +kernel
theorem dX0_replaceRiscJump_86 : decode cX0_replaceRiscJump 86 = .ok (.getfield 65, 3) := by decide +kernel
theorem dX0_replaceRiscJump_89 : decode cX0_replaceRiscJump 89 = .ok (.iload_n 1, 1) := by decide +kernel
theorem dX0_replaceRiscJump_90 : decode cX0_replaceRiscJump 90 = .ok (.sipush 4095, 3) := by decide +kernel
theorem dX0_replaceRiscJump_93 : decode cX0_replaceRiscJump 93 = .ok (.iand, 1) := by decide +kernel
theorem dX0_replaceRiscJump_94 : decode cX0_replaceRiscJump 94 = .ok (.iload 4, 2) := by decide +kernel
theorem dX0_replaceRiscJump_96 : decode cX0_replaceRiscJump 96 = .ok (.ior, 1) := by decide +kernel
theorem dX0_replaceRiscJump_97 : decode cX0_replaceRiscJump 97 = .ok (.invokevirtual 112, 3) := by decide +kernel
theorem dX0_replaceRiscJump_100 : decode cX0_replaceRiscJump 100 = .ok (.aload_n 0, 1) := by decide +kernel
theorem dX0_replaceRiscJump_101 : decode cX0_replaceRiscJump 101 = .ok (.dup, 1) := by decide +kernel
theorem dX0_replaceRiscJump_102 : decode cX0_replaceRiscJump 102 = .ok (.getfield 48, 3) := by decide +kernel
theorem dX0_replaceRiscJump_105 : decode cX0_replaceRiscJump 105 = .ok (.iconst 1, 1) := by decide +kernel
theorem dX0_replaceRiscJump_106 : decode cX0_replaceRiscJump 106 = .ok (.iadd, 1) := by decide +kernel
theorem dX0_replaceRiscJump_107 : decode cX0_replaceRiscJump 107 = .ok (.putfield 48, 3) := by decide +kernel
theorem dX0_replaceRiscJump_110 : decode cX0_replaceRiscJump 110 = .ok (.return_, 1) := by decide +kernel
set_option maxRecDepth 20000 in
theorem ggX0_replaceRiscPair_X0_moved : GoodIn wsX0_replaceRiscPair wsX0_moved := goodIn_r _ [10, 11, 18, 19, 20, 21, 22, 23, 24, 25, 26, 27, 28] (by decide +kernel) (by decide +kernel)
set_option maxRecDepth 20000 in
theorem gX0_replaceRiscPair_X0_moved : GoodIn wsX0_replaceRiscPair (wsV RX0 99 RX0 yX0_moved wsX0_moved) := goodIn_app (goodIn_of _ (by decide +kernel)) ggX0_replaceRiscPair_X0_moved
set_option maxRecDepth 20000 in
theorem ggX0_replaceRiscPair_X1_setLowestFirst : GoodIn wsX0_replaceRiscPair wsX1_setLowestFirst := goodIn_r _ [16, 17, 29, 30] (by decide +kernel) (by decide +kernel)
set_option maxRecDepth 20000 in
theorem gX0_replaceRiscPair_X1_setLowestFirst : GoodIn wsX0_replaceRiscPair (wsV RX0 112 RX1 yX1_setLowestFirst wsX1_setLowestFirst) := goodIn_app (goodIn_of _ (by decide +kernel)) ggX0_replaceRiscPair_X1_setLowestFirst
theorem dX0_replaceRiscPair_0 : decode cX0_replaceRiscPair 0 = .ok (.iload_n 2, 1) := by decide +kernel
theorem dX0_replaceRiscPair_1 : decode cX0_replaceRiscPair 1 = .ok (.bipush 127, 2) := by decide +kernel
theorem dX0_replaceRiscPair_3 : decode cX0_replaceRiscPair 3 = .ok (.iand, 1) := by decide +kernel
theorem dX0_replaceRiscPair_4 : decode cX0_replaceRiscPair 4 = .ok (.istore 4, 2) := by decide +kernel
theorem dX0_replaceRiscPair_6 : decode cX0_replaceRiscPair 6 = .ok (.iload_n 2, 1) := by decide +kernel
theorem dX0_replaceRiscPair_7 : decode cX0_replaceRiscPair 7 = .ok (.bipush 15, 2) := by decide +kernel
theorem dX0_replaceRiscPair_9 : decode cX0_replaceRiscPair 9 = .ok (.iushr, 1) := by decide +kernel
theorem dX0_replaceRiscPair_10 : decode cX0_replaceRiscPair 10 = .ok (.bipush 31, 2) := by decide +kernel
theorem dX0_replaceRiscPair_12 : decode cX0_replaceRiscPair 12 = .ok (.iand, 1) := by decide +kernel
theorem dX0_replaceRiscPair_13 : decode cX0_replaceRiscPair 13 = .ok (.iload_n 3, 1) := by decide +kernel
theorem dX0_replaceRiscPair_14 : decode cX0_replaceRiscPair 14 = .ok (.if_icmp .ne 16, 3) := by decide +kernel
theorem dX0_replaceRiscPair_17 : decode cX0_replaceRiscPair 17 = .ok (.iload 4, 2) := by decide +kernel
theorem dX0_replaceRiscPair_19 : decode cX0_replaceRiscPair 19 = .ok (.bipush 103, 2) := by decide +kernel
theorem dX0_replaceRiscPair_21 : decode cX0_replaceRiscPair 21 = .ok (.if_icmp .eq 10, 3) := by decide +kernel
theorem dX0_replaceRiscPair_24 : decode cX0_replaceRiscPair 24 = .ok (.iload 4, 2) := by decide +kernel
theorem dX0_replaceRiscPair_26 : decode cX0_replaceRiscPair 26 = .ok (.iconst 3, 1) := by decide +kernel
theorem dX0_replaceRiscPair_27 : decode cX0_replaceRiscPair 27 = .ok (.if_icmp .eq 4, 3) := by decide +kernel
theorem dX0_replaceRiscPair_30 : decode cX0_replaceRiscPair 30 = .ok (.return_, 1) := by decide +kernel
theorem dX0_replaceRiscPair_31 : decode cX0_replaceRiscPair 31 = .ok (.aload_n 0, 1) := by decide +kernel
theorem dX0_replaceRiscPair_32 : decode cX0_replaceRiscPair 32 = .ok (.iload_n 1, 1) := by decide +kernel
theorem dX0_replaceRiscPair_33 : decode cX0_replaceRiscPair 33 = .ok (.sipush (-4096), 3) := by decide +kernel
theorem dX0_replaceRiscPair_36 : decode cX0_replaceRiscPair 36 = .ok (.iand, 1) := by decide +kernel
theorem dX0_replaceRiscPair_37 : decode cX0_replaceRiscPair 37 = .ok (.iload_n 2, 1) := by decide +kernel
theorem dX0_replaceRiscPair_38 : decode cX0_replaceRiscPair 38 = .ok (.bipush 20, 2) := by decide +kernel
theorem dX0_replaceRiscPair_40 : decode cX0_replaceRiscPair 40 = .ok (.ishr, 1) := by decide +kernel
theorem dX0_replaceRiscPair_41 : decode cX0_replaceRiscPair 41 = .ok (.iadd, 1) := by decide +kernel
theorem dX0_replaceRiscPair_42 : decode cX0_replaceRiscPair 42 = .ok (.aload_n 0, 1) := by decide +kernel
theorem dX0_replaceRiscPair_43 : decode cX0_replaceRiscPair 43 = .ok (.getfield 42, 3) := by decide +kernel
theorem dX0_replaceRiscPair_46 : decode cX0_replaceRiscPair 46 = .ok (.invokevirtual 99, 3) := by decide +kernel
theorem dX0_replaceRiscPair_49 : decode cX0_replaceRiscPair 49 = .ok (.istore 5, 2) := by decide +kernel
theorem dX0_replaceRiscPair_51 : decode cX0_replaceRiscPair 51 = .ok (.iload 5, 2) := by decide +kernel
theorem dX0_replaceRiscPair_53 : decode cX0_replaceRiscPair 53 = .ok (.sipush 2048, 3) := by decide +kernel
theorem dX0_replaceRiscPair_56 : decode cX0_replaceRiscPair 56 = .ok (.iadd, 1) := by decide +kernel
theorem dX0_replaceRiscPair_57 : decode cX0_replaceRiscPair 57 = .ok (.sipush (-4096), 3) := by decide +kernel
theorem dX0_replaceRiscPair_60 : decode cX0_replaceRiscPair 60 = .ok (.iand, 1) := by decide +kernel
theorem dX0_replaceRiscPair_61 : decode cX0_replaceRiscPair 61 = .ok (.istore 6, 2) := by decide +kernel
theorem dX0_replaceRiscPair_63 : decode cX0_replaceRiscPair 63 = .ok (.aload_n 0, 1) := by decide +kernel
theorem dX0_replaceRiscPair_64 : decode cX0_replaceRiscPair 64 = .ok (.getfield 14, 3) := by decide +kernel
theorem dX0_replaceRiscPair_67 : decode cX0_replaceRiscPair 67 = .ok (.aload_n 0, 1) := by decide +kernel
theorem dX0_replaceRiscPair_68 : decode cX0_replaceRiscPair 68 = .ok (.getfield 65, 3) := by decide +kernel
theorem dX0_replaceRiscPair_71 : decode cX0_replaceRiscPair 71 = .ok (.iload_n 1, 1) := by decide +kernel
theorem dX0_replaceRiscPair_72 : decode cX0_replaceRiscPair 72 = .ok (.sipush 4095, 3) := by decide +kernel
theorem dX0_replaceRiscPair_75 : decode cX0_replaceRiscPair 75 = .ok (.iand, 1) := by decide +kernel
theorem dX0_replaceRiscPair_76 : decode cX0_replaceRiscPair 76 = .ok (.iload 6, 2) := by decide +kernel
theorem dX0_replaceRiscPair_78 : decode cX0_replaceRiscPair 78 = .ok (.ior, 1) := by decide +kernel
theorem dX0_replaceRiscPair_79 : decode cX0_replaceRiscPair 79 = .ok (.invokevirtual 112, 3) := by decide +kernel
theorem dX0_replaceRiscPair_82 : decode cX0_replaceRiscPair 82 = .ok (.aload_n 0, 1) := by decide +kernel
theorem dX0_replaceRiscPair_83 : decode cX0_replaceRiscPair 83 = .ok (.getfield 14, 3) := by decide +kernel
theorem dX0_replaceRiscPair_86 : decode cX0_replaceRiscPair 86 = .ok (.aload_n 0, 1) := by decide +kernel
theorem dX0_replaceRiscPair_87 : decode cX0_replaceRiscPair 87 = .ok (.getfield 65, 3) := by decide +kernel
theorem dX0_replaceRiscPair_90 : decode cX0_replaceRiscPair 90 = .ok (.iconst 4, 1) := by decide +kernel
theorem dX0_replaceRiscPair_91 : decode cX0_replaceRiscPair 91 = .ok (.iadd, 1) := by decide +kernel
theorem dX0_replaceRiscPair_92 : decode cX0_replaceRiscPair 92 = .ok (.iload_n 2, 1) := by decide +kernel
theorem dX0_replaceRiscPair_93 : decode cX0_replaceRiscPair 93 = .ok (.ldc 134, 2) := by decide +kernel
theorem dX0_replaceRiscPair_95 : decode cX0_replaceRiscPair 95 = .ok (.iand, 1) := by decide +kernel
theorem dX0_replaceRiscPair_96 : decode cX0_replaceRiscPair 96 = .ok (.iload 5, 2) := by decide +kernel
theorem dX0_replaceRiscPair_98 : decode cX0_replaceRiscPair 98 = .ok (.bipush 20, 2) := by decide +kernel
theorem dX0_replaceRiscPair_100 : decode cX0_replaceRiscPair 100 = .ok (.ishl, 1) := by decide +kernel
theorem dX0_replaceRiscPair_101 : decode cX0_replaceRiscPair 101 = .ok (.ior, 1) := by decide +kernel
theorem dX0_replaceRiscPair_102 : decode cX0_replaceRiscPair 102 = .ok (.invokevirtual 112, 3) := by decide +kernel
theorem dX0_replaceRiscPair_105 : decode cX0_replaceRiscPair 105 = .ok (.aload_n 0, 1) := by decide +kernel
theorem dX0_replaceRiscPair_106 : decode cX0_replaceRiscPair 106 = .ok (.dup, 1) := by decide +kernel
theorem dX0_replaceRiscPair_107 : decode cX0_replaceRiscPair 107 = .ok (.getfield 48, 3) := by decide +kernel
theorem dX0_replaceRiscPair_110 : decode cX0_replaceRiscPair 110 = .ok (.iconst 1, 1) := by decide +kernel
theorem dX0_replaceRiscPair_111 : decode cX0_replaceRiscPair 111 = .ok (.iadd, 1) := by decide +kernel
theorem dX0_replaceRiscPair_112 : decode cX0_replaceRiscPair 112 = .ok (.putfield 48, 3) := by decide +kernel
theorem dX0_replaceRiscPair_115 : decode cX0_replaceRiscPair 115 = .ok (.return_, 1) := by decide +kernel
set_option maxRecDepth 20000 in
theorem ggX0_stepX86_X1_at : GoodIn wsX0_stepX86 wsX1_at := goodIn_r _ [10, 11, 53, 54] (by decide +kernel) (by decide +kernel)
set_option maxRecDepth 20000 in
theorem gX0_stepX86_X1_at : GoodIn wsX0_stepX86 (wsV RX0 95 RX1 yX1_at wsX1_at) := goodIn_app (goodIn_of _ (by decide +kernel)) ggX0_stepX86_X1_at
set_option maxRecDepth 20000 in
theorem ggX0_stepX86_X0_ageMask : GoodIn wsX0_stepX86 wsX0_ageMask := goodIn_r _ [16, 3, 17, 4, 42, 43, 44, 45, 46, 47, 48, 49, 50, 51, 52] (by decide +kernel) (by decide +kernel)
set_option maxRecDepth 20000 in
theorem gX0_stepX86_X0_ageMask : GoodIn wsX0_stepX86 (wsV RX0 135 RX0 yX0_ageMask wsX0_ageMask) := goodIn_app (goodIn_of _ (by decide +kernel)) ggX0_stepX86_X0_ageMask
set_option maxRecDepth 20000 in
theorem ggX0_stepX86_X0_isSignByte : GoodIn wsX0_stepX86 wsX0_isSignByte := goodIn_r _ [20] (by decide +kernel) (by decide +kernel)
set_option maxRecDepth 20000 in
theorem gX0_stepX86_X0_isSignByte : GoodIn wsX0_stepX86 (va_wsS RX0 138 yX0_isSignByte wsX0_isSignByte) := goodIn_app (goodIn_of _ (by decide +kernel)) ggX0_stepX86_X0_isSignByte
set_option maxRecDepth 20000 in
theorem ggX0_stepX86_X0_maskAllows : GoodIn wsX0_stepX86 wsX0_maskAllows := goodIn_r _ [24, 4, 42, 43, 44, 45, 46, 47, 48, 49, 50, 51, 52] (by decide +kernel) (by decide +kernel)
set_option maxRecDepth 20000 in
theorem gX0_stepX86_X0_maskAllows : GoodIn wsX0_stepX86 (wsV RX0 142 RX0 yX0_maskAllows wsX0_maskAllows) := goodIn_app (goodIn_of _ (by decide +kernel)) ggX0_stepX86_X0_maskAllows
set_option maxRecDepth 20000 in
theorem ggX0_stepX86_X1_lowestFirst : GoodIn wsX0_stepX86 wsX1_lowestFirst := goodIn_r _ [28, 11, 53, 54] (by decide +kernel) (by decide +kernel)
set_option maxRecDepth 20000 in
theorem gX0_stepX86_X1_lowestFirst : GoodIn wsX0_stepX86 (wsV RX0 107 RX1 yX1_lowestFirst wsX1_lowestFirst) := goodIn_app (goodIn_of _ (by decide +kernel)) ggX0_stepX86_X1_lowestFirst
set_option maxRecDepth 20000 in
theorem ggX0_stepX86_X0_x86Target : GoodIn wsX0_stepX86 wsX0_x86Target := goodIn_r _ [32, 4, 33, 34, 35, 15, 36, 37, 18, 19, 20, 42, 43, 44, 45, 46, 47, 48, 49, 50, 51, 52] (by decide +kernel) (by decide +kernel)
set_option maxRecDepth 20000 in
theorem gX0_stepX86_X0_x86Target : GoodIn wsX0_stepX86 (wsV RX0 146 RX0 yX0_x86Target wsX0_x86Target) := goodIn_app (goodIn_of _ (by decide +kernel)) ggX0_stepX86_X0_x86Target
set_option maxRecDepth 20000 in
theorem ggX0_stepX86_X1_setLowestFirst : GoodIn wsX0_stepX86 wsX1_setLowestFirst := goodIn_r _ [41, 11, 53, 54] (by decide +kernel) (by decide +kernel)
set_option maxRecDepth 20000 in
theorem gX0_stepX86_X1_setLowestFirst : GoodIn wsX0_stepX86 (wsV RX0 112 RX1 yX1_setLowestFirst wsX1_setLowestFirst) := goodIn_app (goodIn_of _ (by decide +kernel)) ggX0_stepX86_X1_setLowestFirst
theorem dX0_stepX86_0 : decode cX0_stepX86 0 = .ok (.aload_n 0, 1) := by decide +kernel
theorem dX0_stepX86_1 : decode cX0_stepX86 1 = .ok (.getfield 14, 3) := by decide +kernel
theorem dX0_stepX86_4 : decode cX0_stepX86 4 = .ok (.aload_n 0, 1) := by decide +kernel
theorem dX0_stepX86_5 : decode cX0_stepX86 5 = .ok (.getfield 65, 3) := by decide +kernel
theorem dX0_stepX86_8 : decode cX0_stepX86 8 = .ok (.invokevirtual 95, 3) := by decide +kernel
theorem dX0_stepX86_11 : decode cX0_stepX86 11 = .ok (.istore_n 1, 1) := by decide +kernel
theorem dX0_stepX86_12 : decode cX0_stepX86 12 = .ok (.iload_n 1, 1) := by decide +kernel
theorem dX0_stepX86_13 : decode cX0_stepX86 13 = .ok (.sipush 232, 3) := by decide +kernel
theorem dX0_stepX86_16 : decode cX0_stepX86 16 = .ok (.if_icmp .eq 12, 3) := by decide +kernel
theorem dX0_stepX86_19 : decode cX0_stepX86 19 = .ok (.iload_n 1, 1) := by decide +kernel
theorem dX0_stepX86_20 : decode cX0_stepX86 20 = .ok (.sipush 233, 3) := by decide +kernel
theorem dX0_stepX86_23 : decode cX0_stepX86 23 = .ok (.if_icmp .eq 5, 3) := by decide +kernel
theorem dX0_stepX86_26 : decode cX0_stepX86 26 = .ok (.iconst 1, 1) := by decide +kernel
theorem dX0_stepX86_27 : decode cX0_stepX86 27 = .ok (.ireturn, 1) := by decide +kernel
theorem dX0_stepX86_28 : decode cX0_stepX86 28 = .ok (.aload_n 0, 1) := by decide +kernel
theorem dX0_stepX86_29 : decode cX0_stepX86 29 = .ok (.invokevirtual 135, 3) := by decide +kernel
theorem dX0_stepX86_32 : decode cX0_stepX86 32 = .ok (.aload_n 0, 1) := by decide +kernel
theorem dX0_stepX86_33 : decode cX0_stepX86 33 = .ok (.getfield 14, 3) := by decide +kernel
theorem dX0_stepX86_36 : decode cX0_stepX86 36 = .ok (.aload_n 0, 1) := by decide +kernel
theorem dX0_stepX86_37 : decode cX0_stepX86 37 = .ok (.getfield 65, 3) := by decide +kernel
theorem dX0_stepX86_40 : decode cX0_stepX86 40 = .ok (.iconst 4, 1) := by decide +kernel
theorem dX0_stepX86_41 : decode cX0_stepX86 41 = .ok (.iadd, 1) := by decide +kernel
theorem dX0_stepX86_42 : decode cX0_stepX86 42 = .ok (.invokevirtual 95, 3) := by decide +kernel
theorem dX0_stepX86_45 : decode cX0_stepX86 45 = .ok (.invokestatic 138, 3) := by decide +kernel
theorem dX0_stepX86_48 : decode cX0_stepX86 48 = .ok (.istore_n 2, 1) := by decide +kernel
theorem dX0_stepX86_49 : decode cX0_stepX86 49 = .ok (.iload_n 2, 1) := by decide +kernel
theorem dX0_stepX86_50 : decode cX0_stepX86 50 = .ok (.ifCond .eq 71, 3) := by decide +kernel
theorem dX0_stepX86_53 : decode cX0_stepX86 53 = .ok (.aload_n 0, 1) := by decide +kernel
theorem dX0_stepX86_54 : decode cX0_stepX86 54 = .ok (.invokevirtual 142, 3) := by decide +kernel
theorem dX0_stepX86_57 : decode cX0_stepX86 57 = .ok (.ifCond .eq 64, 3) := by decide +kernel
theorem dX0_stepX86_60 : decode cX0_stepX86 60 = .ok (.aload_n 0, 1) := by decide +kernel
theorem dX0_stepX86_61 : decode cX0_stepX86 61 = .ok (.aload_n 0, 1) := by decide +kernel
theorem dX0_stepX86_62 : decode cX0_stepX86 62 = .ok (.getfield 14, 3) := by decide +kernel
theorem dX0_stepX86_65 : decode cX0_stepX86 65 = .ok (.aload_n 0, 1) := by decide +kernel
theorem dX0_stepX86_66 : decode cX0_stepX86 66 = .ok (.getfield 65, 3) := by decide +kernel
theorem dX0_stepX86_69 : decode cX0_stepX86 69 = .ok (.iconst 1, 1) := by decide +kernel
theorem dX0_stepX86_70 : decode cX0_stepX86 70 = .ok (.iadd, 1) := by decide +kernel
theorem dX0_stepX86_71 : decode cX0_stepX86 71 = .ok (.invokevirtual 107, 3) := by decide +kernel
theorem dX0_stepX86_74 : decode cX0_stepX86 74 = .ok (.aload_n 0, 1) := by decide +kernel
theorem dX0_stepX86_75 : decode cX0_stepX86 75 = .ok (.getfield 42, 3) := by decide +kernel
theorem dX0_stepX86_78 : decode cX0_stepX86 78 = .ok (.iconst 5, 1) := by decide +kernel
theorem dX0_stepX86_79 : decode cX0_stepX86 79 = .ok (.iadd, 1) := by decide +kernel
theorem dX0_stepX86_80 : decode cX0_stepX86 80 = .ok (.invokevirtual 146, 3) := by decide +kernel
theorem dX0_stepX86_83 : decode cX0_stepX86 83 = .ok (.istore_n 3, 1) := by decide +kernel
theorem dX0_stepX86_84 : decode cX0_stepX86 84 = .ok (.aload_n 0, 1) := by decide +kernel
theorem dX0_stepX86_85 : decode cX0_stepX86 85 = .ok (.getfield 14, 3) := by decide +kernel
theorem dX0_stepX86_88 : decode cX0_stepX86 88 = .ok (.aload_n 0, 1) := by decide +kernel
theorem dX0_stepX86_89 : decode cX0_stepX86 89 = .ok (.getfield 65, 3) := by decide +kernel
theorem dX0_stepX86_92 : decode cX0_stepX86 92 = .ok (.iconst 1, 1) := by decide +kernel
theorem dX0_stepX86_93 : decode cX0_stepX86 93 = .ok (.iadd, 1) := by decide +kernel
theorem dX0_stepX86_94 : decode cX0_stepX86 94 = .ok (.iload_n 3, 1) := by decide +kernel
theorem dX0_stepX86_95 : decode cX0_stepX86 95 = .ok (.bipush 7, 2) := by decide +kernel
theorem dX0_stepX86_97 : decode cX0_stepX86 97 = .ok (.ishl, 1) := by decide +kernel
theorem dX0_stepX86_98 : decode cX0_stepX86 98 = .ok (.bipush 7, 2) := by decide +kernel
theorem dX0_stepX86_100 : decode cX0_stepX86 100 = .ok (.ishr, 1) := by decide +kernel
theorem dX0_stepX86_101 : decode cX0_stepX86 101 = .ok (.invokevirtual 112, 3) := by decide +kernel
theorem dX0_stepX86_104 : decode cX0_stepX86 104 = .ok (.aload_n 0, 1) := by decide +kernel
theorem dX0_stepX86_105 : decode cX0_stepX86 105 = .ok (.iconst 0, 1) := by decide +kernel
theorem dX0_stepX86_106 : decode cX0_stepX86 106 = .ok (.putfield 51, 3) := by decide +kernel
theorem dX0_stepX86_109 : decode cX0_stepX86 109 = .ok (.aload_n 0, 1) := by decide +kernel
theorem dX0_stepX86_110 : decode cX0_stepX86 110 = .ok (.dup, 1) := by decide +kernel
theorem dX0_stepX86_111 : decode cX0_stepX86 111 = .ok (.getfield 48, 3) := by decide +kernel
theorem dX0_stepX86_114 : decode cX0_stepX86 114 = .ok (.iconst 1, 1) := by decide +kernel
theorem dX0_stepX86_115 : decode cX0_stepX86 115 = .ok (.iadd, 1) := by decide +kernel
theorem dX0_stepX86_116 : decode cX0_stepX86 116 = .ok (.putfield 48, 3) := by decide +kernel
theorem dX0_stepX86_119 : decode cX0_stepX86 119 = .ok (.iconst 5, 1) := by decide +kernel
theorem dX0_stepX86_120 : decode cX0_stepX86 120 = .ok (.ireturn, 1) := by decide +kernel
theorem dX0_stepX86_121 : decode cX0_stepX86 121 = .ok (.aload_n 0, 1) := by decide +kernel
theorem dX0_stepX86_122 : decode cX0_stepX86 122 = .ok (.dup, 1) := by decide +kernel
theorem dX0_stepX86_123 : decode cX0_stepX86 123 = .ok (.getfield 51, 3) := by decide +kernel
theorem dX0_stepX86_126 : decode cX0_stepX86 126 = .ok (.iload_n 2, 1) := by decide +kernel
theorem dX0_stepX86_127 : decode cX0_stepX86 127 = .ok (.ifCond .eq 8, 3) := by decide +kernel
theorem dX0_stepX86_130 : decode cX0_stepX86 130 = .ok (.bipush 17, 2) := by decide +kernel
theorem dX0_stepX86_132 : decode cX0_stepX86 132 = .ok (.goto 4, 3) := by decide +kernel
theorem dX0_stepX86_135 : decode cX0_stepX86 135 = .ok (.iconst 1, 1) := by decide +kernel
theorem dX0_stepX86_136 : decode cX0_stepX86 136 = .ok (.ior, 1) := by decide +kernel
theorem dX0_stepX86_137 : decode cX0_stepX86 137 = .ok (.putfield 51, 3) := by decide +kernel
theorem dX0_stepX86_140 : decode cX0_stepX86 140 = .ok (.iconst 1, 1) := by decide +kernel
theorem dX0_stepX86_141 : decode cX0_stepX86 141 = .ok (.ireturn, 1) := by decide +kernel
theorem dX0_ageMask_0 : decode cX0_ageMask 0 = .ok (.aload_n 0, 1) := by decide +kernel
theorem dX0_ageMask_1 : decode cX0_ageMask 1 = .ok (.getfield 42, 3) := by decide +kernel
theorem dX0_ageMask_4 : decode cX0_ageMask 4 = .ok (.aload_n 0, 1) := by decide +kernel
theorem dX0_ageMask_5 : decode cX0_ageMask 5 = .ok (.getfield 54, 3) := by decide +kernel
theorem dX0_ageMask_8 : decode cX0_ageMask 8 = .ok (.isub, 1) := by decide +kernel
theorem dX0_ageMask_9 : decode cX0_ageMask 9 = .ok (.istore_n 1, 1) := by decide +kernel
theorem dX0_ageMask_10 : decode cX0_ageMask 10 = .ok (.aload_n 0, 1) := by decide +kernel
theorem dX0_ageMask_11 : decode cX0_ageMask 11 = .ok (.aload_n 0, 1) := by decide +kernel
theorem dX0_ageMask_12 : decode cX0_ageMask 12 = .ok (.getfield 42, 3) := by decide +kernel
theorem dX0_ageMask_15 : decode cX0_ageMask 15 = .ok (.putfield 54, 3) := by decide +kernel
theorem dX0_ageMask_18 : decode cX0_ageMask 18 = .ok (.iload_n 1, 1) := by decide +kernel
theorem dX0_ageMask_19 : decode cX0_ageMask 19 = .ok (.ifCond .lt 8, 3) := by decide +kernel
theorem dX0_ageMask_22 : decode cX0_ageMask 22 = .ok (.iload_n 1, 1) := by decide +kernel
theorem dX0_ageMask_23 : decode cX0_ageMask 23 = .ok (.iconst 5, 1) := by decide +kernel
theorem dX0_ageMask_24 : decode cX0_ageMask 24 = .ok (.if_icmp .le 9, 3) := by decide +kernel
theorem dX0_ageMask_27 : decode cX0_ageMask 27 = .ok (.aload_n 0, 1) := by decide +kernel
theorem dX0_ageMask_28 : decode cX0_ageMask 28 = .ok (.iconst 0, 1) := by decide +kernel
theorem dX0_ageMask_29 : decode cX0_ageMask 29 = .ok (.putfield 51, 3) := by decide +kernel
theorem dX0_ageMask_32 : decode cX0_ageMask 32 = .ok (.return_, 1) := by decide +kernel
theorem dX0_ageMask_33 : decode cX0_ageMask 33 = .ok (.iconst 0, 1) := by decide +kernel
theorem dX0_ageMask_34 : decode cX0_ageMask 34 = .ok (.istore_n 2, 1) := by decide +kernel
theorem dX0_ageMask_35 : decode cX0_ageMask 35 = .ok (.iload_n 2, 1) := by decide +kernel
theorem dX0_ageMask_36 : decode cX0_ageMask 36 = .ok (.iload_n 1, 1) := by decide +kernel
theorem dX0_ageMask_37 : decode cX0_ageMask 37 = .ok (.if_icmp .ge 22, 3) := by decide +kernel
theorem dX0_ageMask_40 : decode cX0_ageMask 40 = .ok (.aload_n 0, 1) := by decide +kernel
theorem dX0_ageMask_41 : decode cX0_ageMask 41 = .ok (.aload_n 0, 1) := by decide +kernel
theorem dX0_ageMask_42 : decode cX0_ageMask 42 = .ok (.getfield 51, 3) := by decide +kernel
theorem dX0_ageMask_45 : decode cX0_ageMask 45 = .ok (.bipush 119, 2) := by decide +kernel
theorem dX0_ageMask_47 : decode cX0_ageMask 47 = .ok (.iand, 1) := by decide +kernel
theorem dX0_ageMask_48 : decode cX0_ageMask 48 = .ok (.iconst 2, 1) := by decide +kernel
theorem dX0_ageMask_49 : decode cX0_ageMask 49 = .ok (.imul, 1) := by decide +kernel
theorem dX0_ageMask_50 : decode cX0_ageMask 50 = .ok (.putfield 51, 3) := by decide +kernel
theorem dX0_ageMask_53 : decode cX0_ageMask 53 = .ok (.iinc 2 1, 3) := by decide +kernel
theorem dX0_ageMask_56 : decode cX0_ageMask 56 = .ok (.goto (-21), 3) := by decide +kernel
theorem dX0_ageMask_59 : decode cX0_ageMask 59 = .ok (.return_, 1) := by decide +kernel
theorem dX0_maskAllows_0 : decode cX0_maskAllows 0 = .ok (.aload_n 0, 1) := by decide +kernel
theorem dX0_maskAllows_1 : decode cX0_maskAllows 1 = .ok (.getfield 51, 3) := by decide +kernel
theorem dX0_maskAllows_4 : decode cX0_maskAllows 4 = .ok (.iconst 2, 1) := by decide +kernel
theorem dX0_maskAllows_5 : decode cX0_maskAllows 5 = .ok (.idiv, 1) := by decide +kernel
theorem dX0_maskAllows_6 : decode cX0_maskAllows 6 = .ok (.istore_n 1, 1) := by decide +kernel
theorem dX0_maskAllows_7 : decode cX0_maskAllows 7 = .ok (.iload_n 1, 1) := by decide +kernel
theorem dX0_maskAllows_8 : decode cX0_maskAllows 8 = .ok (.bipush 8, 2) := by decide +kernel
theorem dX0_maskAllows_10 : decode cX0_maskAllows 10 = .ok (.irem, 1) := by decide +kernel
theorem dX0_maskAllows_11 : decode cX0_maskAllows 11 = .ok (.istore_n 2, 1) := by decide +kernel
theorem dX0_maskAllows_12 : decode cX0_maskAllows 12 = .ok (.iload_n 1, 1) := by decide +kernel
theorem dX0_maskAllows_13 : decode cX0_maskAllows 13 = .ok (.bipush 16, 2) := by decide +kernel
theorem dX0_maskAllows_15 : decode cX0_maskAllows 15 = .ok (.if_icmp .ge 17, 3) := by decide +kernel
theorem dX0_maskAllows_18 : decode cX0_maskAllows 18 = .ok (.iload_n 2, 1) := by decide +kernel
theorem dX0_maskAllows_19 : decode cX0_maskAllows 19 = .ok (.iconst 2, 1) := by decide +kernel
theorem dX0_maskAllows_20 : decode cX0_maskAllows 20 = .ok (.if_icmp .le 8, 3) := by decide +kernel
theorem dX0_maskAllows_23 : decode cX0_maskAllows 23 = .ok (.iload_n 2, 1) := by decide +kernel
theorem dX0_maskAllows_24 : decode cX0_maskAllows 24 = .ok (.iconst 4, 1) := by decide +kernel
theorem dX0_maskAllows_25 : decode cX0_maskAllows 25 = .ok (.if_icmp .ne 7, 3) := by decide +kernel
theorem dX0_maskAllows_28 : decode cX0_maskAllows 28 = .ok (.iconst 1, 1) := by decide +kernel
theorem dX0_maskAllows_29 : decode cX0_maskAllows 29 = .ok (.goto 4, 3) := by decide +kernel
theorem dX0_maskAllows_32 : decode cX0_maskAllows 32 = .ok (.iconst 0, 1) := by decide +kernel
theorem dX0_maskAllows_33 : decode cX0_maskAllows 33 = .ok (.ireturn, 1) := by decide +kernel
set_option maxRecDepth 20000 in
theorem ggX0_x86Target_X0_moved : GoodIn wsX0_x86Target wsX0_moved := goodIn_r _ [6, 7, 11, 12, 13, 14, 15, 16, 17, 18, 19, 20, 21] (by decide +kernel) (by decide +kernel)
set_option maxRecDepth 20000 in
theorem gX0_x86Target_X0_moved : GoodIn wsX0_x86Target (wsV RX0 99 RX0 yX0_moved wsX0_moved) := goodIn_app (goodIn_of _ (by decide +kernel)) ggX0_x86Target_X0_moved
set_option maxRecDepth 20000 in
theorem ggX0_x86Target_X0_isSignByte : GoodIn wsX0_x86Target wsX0_isSignByte := goodIn_r _ [10] (by decide +kernel) (by decide +kernel)
set_option maxRecDepth 20000 in
theorem gX0_x86Target_X0_isSignByte : GoodIn wsX0_x86Target (va_wsS RX0 138 yX0_isSignByte wsX0_isSignByte) := goodIn_app (goodIn_of _ (by decide +kernel)) ggX0_x86Target_X0_isSignByte
theorem dX0_x86Target_0 : decode cX0_x86Target 0 = .ok (.aload_n 0, 1) := by decide +kernel
theorem dX0_x86Target_1 : decode cX0_x86Target 1 = .ok (.iload_n 1, 1) := by decide +kernel
theorem dX0_x86Target_2 : decode cX0_x86Target 2 = .ok (.iload_n 2, 1) := by decide +kernel
theorem dX0_x86Target_3 : decode cX0_x86Target 3 = .ok (.invokevirtual 99, 3) := by decide +kernel
theorem dX0_x86Target_6 : decode cX0_x86Target 6 = .ok (.istore_n 3, 1) := by decide +kernel
theorem dX0_x86Target_7 : decode cX0_x86Target 7 = .ok (.aload_n 0, 1) := by decide +kernel
theorem dX0_x86Target_8 : decode cX0_x86Target 8 = .ok (.getfield 51, 3) := by decide +kernel
theorem dX0_x86Target_11 : decode cX0_x86Target 11 = .ok (.ifCond .ne 5, 3) := by decide +kernel
theorem dX0_x86Target_14 : decode cX0_x86Target 14 = .ok (.iload_n 3, 1) := by decide +kernel
theorem dX0_x86Target_15 : decode cX0_x86Target 15 = .ok (.ireturn, 1) := by decide +kernel
theorem dX0_x86Target_16 : decode cX0_x86Target 16 = .ok (.aload_n 0, 1) := by decide +kernel
theorem dX0_x86Target_17 : decode cX0_x86Target 17 = .ok (.getfield 51, 3) := by decide +kernel
theorem dX0_x86Target_20 : decode cX0_x86Target 20 = .ok (.iconst 2, 1) := by decide +kernel
theorem dX0_x86Target_21 : decode cX0_x86Target 21 = .ok (.idiv, 1) := by decide +kernel
theorem dX0_x86Target_22 : decode cX0_x86Target 22 = .ok (.istore 4, 2) := by decide +kernel
theorem dX0_x86Target_24 : decode cX0_x86Target 24 = .ok (.iload 4, 2) := by decide +kernel
theorem dX0_x86Target_26 : decode cX0_x86Target 26 = .ok (.iconst 2, 1) := by decide +kernel
theorem dX0_x86Target_27 : decode cX0_x86Target 27 = .ok (.if_icmp .ge 7, 3) := by decide +kernel
theorem dX0_x86Target_30 : decode cX0_x86Target 30 = .ok (.iconst 1, 1) := by decide +kernel
theorem dX0_x86Target_31 : decode cX0_x86Target 31 = .ok (.goto 14, 3) := by decide +kernel
theorem dX0_x86Target_34 : decode cX0_x86Target 34 = .ok (.iload 4, 2) := by decide +kernel
theorem dX0_x86Target_36 : decode cX0_x86Target 36 = .ok (.iconst 4, 1) := by decide +kernel
theorem dX0_x86Target_37 : decode cX0_x86Target 37 = .ok (.if_icmp .ge 7, 3) := by decide +kernel
theorem dX0_x86Target_40 : decode cX0_x86Target 40 = .ok (.iconst 2, 1) := by decide +kernel
theorem dX0_x86Target_41 : decode cX0_x86Target 41 = .ok (.goto 4, 3) := by decide +kernel
theorem dX0_x86Target_44 : decode cX0_x86Target 44 = .ok (.iconst 3, 1) := by decide +kernel
theorem dX0_x86Target_45 : decode cX0_x86Target 45 = .ok (.istore 5, 2) := by decide +kernel
theorem dX0_x86Target_47 : decode cX0_x86Target 47 = .ok (.bipush 32, 2) := by decide +kernel
theorem dX0_x86Target_49 : decode cX0_x86Target 49 = .ok (.bipush 8, 2) := by decide +kernel
theorem dX0_x86Target_51 : decode cX0_x86Target 51 = .ok (.iload 5, 2) := by decide +kernel
theorem dX0_x86Target_53 : decode cX0_x86Target 53 = .ok (.imul, 1) := by decide +kernel
theorem dX0_x86Target_54 : decode cX0_x86Target 54 = .ok (.isub, 1) := by decide +kernel
theorem dX0_x86Target_55 : decode cX0_x86Target 55 = .ok (.istore 6, 2) := by decide +kernel
theorem dX0_x86Target_57 : decode cX0_x86Target 57 = .ok (.iconst 1, 1) := by decide +kernel
theorem dX0_x86Target_58 : decode cX0_x86Target 58 = .ok (.iload 6, 2) := by decide +kernel
theorem dX0_x86Target_60 : decode cX0_x86Target 60 = .ok (.ishl, 1) := by decide +kernel
theorem dX0_x86Target_61 : decode cX0_x86Target 61 = .ok (.iconst 1, 1) := by decide +kernel
theorem dX0_x86Target_62 : decode cX0_x86Target 62 = .ok (.isub, 1) := by decide +kernel
theorem dX0_x86Target_63 : decode cX0_x86Target 63 = .ok (.istore 7, 2) := by decide +kernel
theorem dX0_x86Target_65 : decode cX0_x86Target 65 = .ok (.iconst 0, 1) := by decide +kernel
theorem dX0_x86Target_66 : decode cX0_x86Target 66 = .ok (.istore 8, 2) := by decide +kernel
theorem dX0_x86Target_68 : decode cX0_x86Target 68 = .ok (.iload 8, 2) := by decide +kernel
theorem dX0_x86Target_70 : decode cX0_x86Target 70 = .ok (.sipush 1000, 3) := by decide +kernel
theorem dX0_x86Target_73 : decode cX0_x86Target 73 = .ok (.if_icmp .ge 39, 3) := by decide +kernel
theorem dX0_x86Target_76 : decode cX0_x86Target 76 = .ok (.iload_n 3, 1) := by decide +kernel
theorem dX0_x86Target_77 : decode cX0_x86Target 77 = .ok (.iload 6, 2) := by decide +kernel
theorem dX0_x86Target_79 : decode cX0_x86Target 79 = .ok (.bipush 8, 2) := by decide +kernel
theorem dX0_x86Target_81 : decode cX0_x86Target 81 = .ok (.isub, 1) := by decide +kernel
theorem dX0_x86Target_82 : decode cX0_x86Target 82 = .ok (.iushr, 1) := by decide +kernel
theorem dX0_x86Target_83 : decode cX0_x86Target 83 = .ok (.sipush 255, 3) := by decide +kernel
theorem dX0_x86Target_86 : decode cX0_x86Target 86 = .ok (.iand, 1) := by decide +kernel
theorem dX0_x86Target_87 : decode cX0_x86Target 87 = .ok (.invokestatic 138, 3) := by decide +kernel
theorem dX0_x86Target_90 : decode cX0_x86Target 90 = .ok (.ifCond .ne 6, 3) := by decide +kernel
theorem dX0_x86Target_93 : decode cX0_x86Target 93 = .ok (.goto 19, 3) := by decide +kernel
theorem dX0_x86Target_96 : decode cX0_x86Target 96 = .ok (.aload_n 0, 1) := by decide +kernel
theorem dX0_x86Target_97 : decode cX0_x86Target 97 = .ok (.iload_n 3, 1) := by decide +kernel
theorem dX0_x86Target_98 : decode cX0_x86Target 98 = .ok (.iload 7, 2) := by decide +kernel
theorem dX0_x86Target_100 : decode cX0_x86Target 100 = .ok (.ixor, 1) := by decide +kernel
theorem dX0_x86Target_101 : decode cX0_x86Target 101 = .ok (.iload_n 2, 1) := by decide +kernel
theorem dX0_x86Target_102 : decode cX0_x86Target 102 = .ok (.invokevirtual 99, 3) := by decide +kernel
theorem dX0_x86Target_105 : decode cX0_x86Target 105 = .ok (.istore_n 3, 1) := by decide +kernel
theorem dX0_x86Target_106 : decode cX0_x86Target 106 = .ok (.iinc 8 1, 3) := by decide +kernel
theorem dX0_x86Target_109 : decode cX0_x86Target 109 = .ok (.goto (-41), 3) := by decide +kernel
theorem dX0_x86Target_112 : decode cX0_x86Target 112 = .ok (.iload_n 3, 1) := by decide +kernel
theorem dX0_x86Target_113 : decode cX0_x86Target 113 = .ok (.ireturn, 1) := by decide +kernel
theorem dX0_isSignByte_0 : decode cX0_isSignByte 0 = .ok (.iload_n 0, 1) := by decide +kernel
theorem dX0_isSignByte_1 : decode cX0_isSignByte 1 = .ok (.ifCond .eq 10, 3) := by decide +kernel
theorem dX0_isSignByte_4 : decode cX0_isSignByte 4 = .ok (.iload_n 0, 1) := by decide +kernel
theorem dX0_isSignByte_5 : decode cX0_isSignByte 5 = .ok (.sipush 255, 3) := by decide +kernel
theorem dX0_isSignByte_8 : decode cX0_isSignByte 8 = .ok (.if_icmp .ne 7, 3) := by decide +kernel
theorem dX0_isSignByte_11 : decode cX0_isSignByte 11 = .ok (.iconst 1, 1) := by decide +kernel
theorem dX0_isSignByte_12 : decode cX0_isSignByte 12 = .ok (.goto 4, 3) := by decide +kernel
theorem dX0_isSignByte_15 : decode cX0_isSignByte 15 = .ok (.iconst 0, 1) := by decide +kernel
theorem dX0_isSignByte_16 : decode cX0_isSignByte 16 = .ok (.ireturn, 1) := by decide +kernel
theorem dX1_init_0 : decode cX1_init 0 = .ok (.aload_n 0, 1) := by decide +kernel
theorem dX1_init_1 : decode cX1_init 1 = .ok (.invokespecial 1, 3) := by decide +kernel
theorem dX1_init_4 : decode cX1_init 4 = .ok (.aload_n 0, 1) := by decide +kernel
theorem dX1_init_5 : decode cX1_init 5 = .ok (.iload_n 1, 1) := by decide +kernel
theorem dX1_init_6 : decode cX1_init 6 = .ok (.newarray .int, 2) := by decide +kernel
theorem dX1_init_8 : decode cX1_init 8 = .ok (.putfield 7, 3) := by decide +kernel
theorem dX1_init_11 : decode cX1_init 11 = .ok (.return_, 1) := by decide +kernel
theorem dX1_size_0 : decode cX1_size 0 = .ok (.aload_n 0, 1) := by decide +kernel
theorem dX1_size_1 : decode cX1_size 1 = .ok (.getfield 13, 3) := by decide +kernel
theorem dX1_size_4 : decode cX1_size 4 = .ok (.ireturn, 1) := by decide +kernel
theorem dX1_at_0 : decode cX1_at 0 = .ok (.aload_n 0, 1) := by decide +kernel
theorem dX1_at_1 : decode cX1_at 1 = .ok (.getfield 7, 3) := by decide +kernel
theorem dX1_at_4 : decode cX1_at 4 = .ok (.iload_n 1, 1) := by decide +kernel
theorem dX1_at_5 : decode cX1_at 5 = .ok (.iaload, 1) := by decide +kernel
theorem dX1_at_6 : decode cX1_at 6 = .ok (.ireturn, 1) := by decide +kernel
theorem dX1_set_0 : decode cX1_set 0 = .ok (.aload_n 0, 1) := by decide +kernel
theorem dX1_set_1 : decode cX1_set 1 = .ok (.getfield 7, 3) := by decide +kernel
theorem dX1_set_4 : decode cX1_set 4 = .ok (.iload_n 1, 1) := by decide +kernel
theorem dX1_set_5 : decode cX1_set 5 = .ok (.iload_n 2, 1) := by decide +kernel
theorem dX1_set_6 : decode cX1_set 6 = .ok (.sipush 255, 3) := by decide +kernel
theorem dX1_set_9 : decode cX1_set 9 = .ok (.iand, 1) := by decide +kernel
theorem dX1_set_10 : decode cX1_set 10 = .ok (.iastore, 1) := by decide +kernel
theorem dX1_set_11 : decode cX1_set 11 = .ok (.return_, 1) := by decide +kernel
theorem dX1_add_0 : decode cX1_add 0 = .ok (.aload_n 0, 1) := by decide +kernel
theorem dX1_add_1 : decode cX1_add 1 = .ok (.getfield 7, 3) := by decide +kernel
theorem dX1_add_4 : decode cX1_add 4 = .ok (.aload_n 0, 1) := by decide +kernel
theorem dX1_add_5 : decode cX1_add 5 = .ok (.getfield 13, 3) := by decide +kernel
theorem dX1_add_8 : decode cX1_add 8 = .ok (.iload_n 1, 1) := by decide +kernel
theorem dX1_add_9 : decode cX1_add 9 = .ok (.sipush 255, 3) := by decide +kernel
theorem dX1_add_12 : decode cX1_add 12 = .ok (.iand, 1) := by decide +kernel
theorem dX1_add_13 : decode cX1_add 13 = .ok (.iastore, 1) := by decide +kernel
theorem dX1_add_14 : decode cX1_add 14 = .ok (.aload_n 0, 1) := by decide +kernel
theorem dX1_add_15 : decode cX1_add 15 = .ok (.dup, 1) := by decide +kernel
theorem dX1_add_16 : decode cX1_add 16 = .ok (.getfield 13, 3) := by decide +kernel
theorem dX1_add_19 : decode cX1_add 19 = .ok (.iconst 1, 1) := by decide +kernel
theorem dX1_add_20 : decode cX1_add 20 = .ok (.iadd, 1) := by decide +kernel
theorem dX1_add_21 : decode cX1_add 21 = .ok (.putfield 13, 3) := by decide +kernel
theorem dX1_add_24 : decode cX1_add 24 = .ok (.return_, 1) := by decide +kernel
theorem dX1_clear_0 : decode cX1_clear 0 = .ok (.aload_n 0, 1) := by decide +kernel
theorem dX1_clear_1 : decode cX1_clear 1 = .ok (.iconst 0, 1) := by decide +kernel
theorem dX1_clear_2 : decode cX1_clear 2 = .ok (.putfield 13, 3) := by decide +kernel
theorem dX1_clear_5 : decode cX1_clear 5 = .ok (.return_, 1) := by decide +kernel
theorem dX1_lowestFirst_0 : decode cX1_lowestFirst 0 = .ok (.aload_n 0, 1) := by decide +kernel
theorem dX1_lowestFirst_1 : decode cX1_lowestFirst 1 = .ok (.getfield 7, 3) := by decide +kernel
theorem dX1_lowestFirst_4 : decode cX1_lowestFirst 4 = .ok (.iload_n 1, 1) := by decide +kernel
theorem dX1_lowestFirst_5 : decode cX1_lowestFirst 5 = .ok (.iaload, 1) := by decide +kernel
theorem dX1_lowestFirst_6 : decode cX1_lowestFirst 6 = .ok (.aload_n 0, 1) := by decide +kernel
theorem dX1_lowestFirst_7 : decode cX1_lowestFirst 7 = .ok (.getfield 7, 3) := by decide +kernel
theorem dX1_lowestFirst_10 : decode cX1_lowestFirst 10 = .ok (.iload_n 1, 1) := by decide +kernel
theorem dX1_lowestFirst_11 : decode cX1_lowestFirst 11 = .ok (.iconst 1, 1) := by decide +kernel
theorem dX1_lowestFirst_12 : decode cX1_lowestFirst 12 = .ok (.iadd, 1) := by decide +kernel
theorem dX1_lowestFirst_13 : decode cX1_lowestFirst 13 = .ok (.iaload, 1) := by decide +kernel
theorem dX1_lowestFirst_14 : decode cX1_lowestFirst 14 = .ok (.bipush 8, 2) := by decide +kernel
theorem dX1_lowestFirst_16 : decode cX1_lowestFirst 16 = .ok (.ishl, 1) := by decide +kernel
theorem dX1_lowestFirst_17 : decode cX1_lowestFirst 17 = .ok (.ior, 1) := by decide +kernel
theorem dX1_lowestFirst_18 : decode cX1_lowestFirst 18 = .ok (.aload_n 0, 1) := by decide +kernel
theorem dX1_lowestFirst_19 : decode cX1_lowestFirst 19 = .ok (.getfield 7, 3) := by decide +kernel
theorem dX1_lowestFirst_22 : decode cX1_lowestFirst 22 = .ok (.iload_n 1, 1) := by decide +kernel
theorem dX1_lowestFirst_23 : decode cX1_lowestFirst 23 = .ok (.iconst 2, 1) := by decide +kernel
theorem dX1_lowestFirst_24 : decode cX1_lowestFirst 24 = .ok (.iadd, 1) := by decide +kernel
theorem dX1_lowestFirst_25 : decode cX1_lowestFirst 25 = .ok (.iaload, 1) := by decide +kernel
theorem dX1_lowestFirst_26 : decode cX1_lowestFirst 26 = .ok (.bipush 16, 2) := by decide +kernel
theorem dX1_lowestFirst_28 : decode cX1_lowestFirst 28 = .ok (.ishl, 1) := by decide +kernel
theorem dX1_lowestFirst_29 : decode cX1_lowestFirst 29 = .ok (.ior, 1) := by decide +kernel
theorem dX1_lowestFirst_30 : decode cX1_lowestFirst 30 = .ok (.aload_n 0, 1) := by decide +kernel
theorem dX1_lowestFirst_31 : decode cX1_lowestFirst 31 = .ok (.getfield 7, 3) := by decide +kernel
theorem dX1_lowestFirst_34 : decode cX1_lowestFirst 34 = .ok (.iload_n 1, 1) := by decide +kernel
theorem dX1_lowestFirst_35 : decode cX1_lowestFirst 35 = .ok (.iconst 3, 1) := by decide +kernel
theorem dX1_lowestFirst_36 : decode cX1_lowestFirst 36 = .ok (.iadd, 1) := by decide +kernel
theorem dX1_lowestFirst_37 : decode cX1_lowestFirst 37 = .ok (.iaload, 1) := by decide +kernel
theorem dX1_lowestFirst_38 : decode cX1_lowestFirst 38 = .ok (.bipush 24, 2) := by decide +kernel
theorem dX1_lowestFirst_40 : decode cX1_lowestFirst 40 = .ok (.ishl, 1) := by decide +kernel
theorem dX1_lowestFirst_41 : decode cX1_lowestFirst 41 = .ok (.ior, 1) := by decide +kernel
theorem dX1_lowestFirst_42 : decode cX1_lowestFirst 42 = .ok (.ireturn, 1) := by decide +kernel
theorem dX1_setLowestFirst_0 : decode cX1_setLowestFirst 0 = .ok (.aload_n 0, 1) := by decide +kernel
theorem dX1_setLowestFirst_1 : decode cX1_setLowestFirst 1 = .ok (.getfield 7, 3) := by decide +kernel
theorem dX1_setLowestFirst_4 : decode cX1_setLowestFirst 4 = .ok (.iload_n 1, 1) := by decide +kernel
theorem dX1_setLowestFirst_5 : decode cX1_setLowestFirst 5 = .ok (.iload_n 2, 1) := by decide +kernel
theorem dX1_setLowestFirst_6 : decode cX1_setLowestFirst 6 = .ok (.sipush 255, 3) := by decide +kernel
theorem dX1_setLowestFirst_9 : decode cX1_setLowestFirst 9 = .ok (.iand, 1) := by decide +kernel
theorem dX1_setLowestFirst_10 : decode cX1_setLowestFirst 10 = .ok (.iastore, 1) := by decide +kernel
theorem dX1_setLowestFirst_11 : decode cX1_setLowestFirst 11 = .ok (.aload_n 0, 1) := by decide +kernel
theorem dX1_setLowestFirst_12 : decode cX1_setLowestFirst 12 = .ok (.getfield 7, 3) := by decide +kernel
theorem dX1_setLowestFirst_15 : decode cX1_setLowestFirst 15 = .ok (.iload_n 1, 1) := by decide +kernel
theorem dX1_setLowestFirst_16 : decode cX1_setLowestFirst 16 = .ok (.iconst 1, 1) := by decide +kernel
theorem dX1_setLowestFirst_17 : decode cX1_setLowestFirst 17 = .ok (.iadd, 1) := by decide +kernel
theorem dX1_setLowestFirst_18 : decode cX1_setLowestFirst 18 = .ok (.iload_n 2, 1) := by decide +kernel
theorem dX1_setLowestFirst_19 : decode cX1_setLowestFirst 19 = .ok (.bipush 8, 2) := by decide +kernel
theorem dX1_setLowestFirst_21 : decode cX1_setLowestFirst 21 = .ok (.iushr, 1) := by decide +kernel
theorem dX1_setLowestFirst_22 : decode cX1_setLowestFirst 22 = .ok (.sipush 255, 3) := by decide +kernel
theorem dX1_setLowestFirst_25 : decode cX1_setLowestFirst 25 = .ok (.iand, 1) := by decide +kernel
theorem dX1_setLowestFirst_26 : decode cX1_setLowestFirst 26 = .ok (.iastore, 1) := by decide +kernel
theorem dX1_setLowestFirst_27 : decode cX1_setLowestFirst 27 = .ok (.aload_n 0, 1) := by decide +kernel
theorem dX1_setLowestFirst_28 : decode cX1_setLowestFirst 28 = .ok (.getfield 7, 3) := by decide +kernel
theorem dX1_setLowestFirst_31 : decode cX1_setLowestFirst 31 = .ok (.iload_n 1, 1) := by decide +kernel
theorem dX1_setLowestFirst_32 : decode cX1_setLowestFirst 32 = .ok (.iconst 2, 1) := by decide +kernel
theorem dX1_setLowestFirst_33 : decode cX1_setLowestFirst 33 = .ok (.iadd, 1) := by decide +kernel
theorem dX1_setLowestFirst_34 : decode cX1_setLowestFirst 34 = .ok (.iload_n 2, 1) := by decide +kernel
theorem dX1_setLowestFirst_35 : decode cX1_setLowestFirst 35 = .ok (.bipush 16, 2) := by decide +kernel
theorem dX1_setLowestFirst_37 : decode cX1_setLowestFirst 37 = .ok (.iushr, 1) := by decide +kernel
theorem dX1_setLowestFirst_38 : decode cX1_setLowestFirst 38 = .ok (.sipush 255, 3) := by decide +kernel
theorem dX1_setLowestFirst_41 : decode cX1_setLowestFirst 41 = .ok (.iand, 1) := by decide +kernel
theorem dX1_setLowestFirst_42 : decode cX1_setLowestFirst 42 = .ok (.iastore, 1) := by decide +kernel
theorem dX1_setLowestFirst_43 : decode cX1_setLowestFirst 43 = .ok (.aload_n 0, 1) := by decide +kernel
theorem dX1_setLowestFirst_44 : decode cX1_setLowestFirst 44 = .ok (.getfield 7, 3) := by decide +kernel
theorem dX1_setLowestFirst_47 : decode cX1_setLowestFirst 47 = .ok (.iload_n 1, 1) := by decide +kernel
theorem dX1_setLowestFirst_48 : decode cX1_setLowestFirst 48 = .ok (.iconst 3, 1) := by decide +kernel
theorem dX1_setLowestFirst_49 : decode cX1_setLowestFirst 49 = .ok (.iadd, 1) := by decide +kernel
theorem dX1_setLowestFirst_50 : decode cX1_setLowestFirst 50 = .ok (.iload_n 2, 1) := by decide +kernel
theorem dX1_setLowestFirst_51 : decode cX1_setLowestFirst 51 = .ok (.bipush 24, 2) := by decide +kernel
theorem dX1_setLowestFirst_53 : decode cX1_setLowestFirst 53 = .ok (.iushr, 1) := by decide +kernel
theorem dX1_setLowestFirst_54 : decode cX1_setLowestFirst 54 = .ok (.iastore, 1) := by decide +kernel
theorem dX1_setLowestFirst_55 : decode cX1_setLowestFirst 55 = .ok (.return_, 1) := by decide +kernel
theorem dX1_highestFirst_0 : decode cX1_highestFirst 0 = .ok (.aload_n 0, 1) := by decide +kernel
theorem dX1_highestFirst_1 : decode cX1_highestFirst 1 = .ok (.getfield 7, 3) := by decide +kernel
theorem dX1_highestFirst_4 : decode cX1_highestFirst 4 = .ok (.iload_n 1, 1) := by decide +kernel
theorem dX1_highestFirst_5 : decode cX1_highestFirst 5 = .ok (.iaload, 1) := by decide +kernel
theorem dX1_highestFirst_6 : decode cX1_highestFirst 6 = .ok (.bipush 24, 2) := by decide +kernel
theorem dX1_highestFirst_8 : decode cX1_highestFirst 8 = .ok (.ishl, 1) := by decide +kernel
theorem dX1_highestFirst_9 : decode cX1_highestFirst 9 = .ok (.aload_n 0, 1) := by decide +kernel
theorem dX1_highestFirst_10 : decode cX1_highestFirst 10 = .ok (.getfield 7, 3) := by decide +kernel
theorem dX1_highestFirst_13 : decode cX1_highestFirst 13 = .ok (.iload_n 1, 1) := by decide +kernel
theorem dX1_highestFirst_14 : decode cX1_highestFirst 14 = .ok (.iconst 1, 1) := by decide +kernel
theorem dX1_highestFirst_15 : decode cX1_highestFirst 15 = .ok (.iadd, 1) := by decide +kernel
theorem dX1_highestFirst_16 : decode cX1_highestFirst 16 = .ok (.iaload, 1) := by decide +kernel
theorem dX1_highestFirst_17 : decode cX1_highestFirst 17 = .ok (.bipush 16, 2) := by decide +kernel
theorem dX1_highestFirst_19 : decode cX1_highestFirst 19 = .ok (.ishl, 1) := by decide +kernel
theorem dX1_highestFirst_20 : decode cX1_highestFirst 20 = .ok (.ior, 1) := by decide +kernel
theorem dX1_highestFirst_21 : decode cX1_highestFirst 21 = .ok (.aload_n 0, 1) := by decide +kernel
theorem dX1_highestFirst_22 : decode cX1_highestFirst 22 = .ok (.getfield 7, 3) := by decide +kernel
theorem dX1_highestFirst_25 : decode cX1_highestFirst 25 = .ok (.iload_n 1, 1) := by decide +kernel
theorem dX1_highestFirst_26 : decode cX1_highestFirst 26 = .ok (.iconst 2, 1) := by decide +kernel
theorem dX1_highestFirst_27 : decode cX1_highestFirst 27 = .ok (.iadd, 1) := by decide +kernel
theorem dX1_highestFirst_28 : decode cX1_highestFirst 28 = .ok (.iaload, 1) := by decide +kernel
theorem dX1_highestFirst_29 : decode cX1_highestFirst 29 = .ok (.bipush 8, 2) := by decide +kernel
theorem dX1_highestFirst_31 : decode cX1_highestFirst 31 = .ok (.ishl, 1) := by decide +kernel
theorem dX1_highestFirst_32 : decode cX1_highestFirst 32 = .ok (.ior, 1) := by decide +kernel
theorem dX1_highestFirst_33 : decode cX1_highestFirst 33 = .ok (.aload_n 0, 1) := by decide +kernel
theorem dX1_highestFirst_34 : decode cX1_highestFirst 34 = .ok (.getfield 7, 3) := by decide +kernel
theorem dX1_highestFirst_37 : decode cX1_highestFirst 37 = .ok (.iload_n 1, 1) := by decide +kernel
theorem dX1_highestFirst_38 : decode cX1_highestFirst 38 = .ok (.iconst 3, 1) := by decide +kernel
theorem dX1_highestFirst_39 : decode cX1_highestFirst 39 = .ok (.iadd, 1) := by decide +kernel
theorem dX1_highestFirst_40 : decode cX1_highestFirst 40 = .ok (.iaload, 1) := by decide +kernel
theorem dX1_highestFirst_41 : decode cX1_highestFirst 41 = .ok (.ior, 1) := by decide +kernel
theorem dX1_highestFirst_42 : decode cX1_highestFirst 42 = .ok (.ireturn, 1) := by decide +kernel
theorem dX1_setHighestFirst_0 : decode cX1_setHighestFirst 0 = .ok (.aload_n 0, 1) := by decide +kernel
theorem dX1_setHighestFirst_1 : decode cX1_setHighestFirst 1 = .ok (.getfield 7, 3) := by decide +kernel
theorem dX1_setHighestFirst_4 : decode cX1_setHighestFirst 4 = .ok (.iload_n 1, 1) := by decide +kernel
theorem dX1_setHighestFirst_5 : decode cX1_setHighestFirst 5 = .ok (.iload_n 2, 1) := by decide +kernel
theorem dX1_setHighestFirst_6 : decode cX1_setHighestFirst 6 = .ok (.bipush 24, 2) := by decide +kernel
theorem dX1_setHighestFirst_8 : decode cX1_setHighestFirst 8 = .ok (.iushr, 1) := by decide +kernel
theorem dX1_setHighestFirst_9 : decode cX1_setHighestFirst 9 = .ok (.iastore, 1) := by decide +kernel
theorem dX1_setHighestFirst_10 : decode cX1_setHighestFirst 10 = .ok (.aload_n 0, 1) := by decide +kernel
theorem dX1_setHighestFirst_11 : decode cX1_setHighestFirst 11 = .ok (.getfield 7, 3) := by decide +kernel
theorem dX1_setHighestFirst_14 : decode cX1_setHighestFirst 14 = .ok (.iload_n 1, 1) := by decide +kernel
theorem dX1_setHighestFirst_15 : decode cX1_setHighestFirst 15 = .ok (.iconst 1, 1) := by decide +kernel
theorem dX1_setHighestFirst_16 : decode cX1_setHighestFirst 16 = .ok (.iadd, 1) := by decide +kernel
theorem dX1_setHighestFirst_17 : decode cX1_setHighestFirst 17 = .ok (.iload_n 2, 1) := by decide +kernel
theorem dX1_setHighestFirst_18 : decode cX1_setHighestFirst 18 = .ok (.bipush 16, 2) := by decide +kernel
theorem dX1_setHighestFirst_20 : decode cX1_setHighestFirst 20 = .ok (.iushr, 1) := by decide +kernel
theorem dX1_setHighestFirst_21 : decode cX1_setHighestFirst 21 = .ok (.sipush 255, 3) := by decide +kernel
theorem dX1_setHighestFirst_24 : decode cX1_setHighestFirst 24 = .ok (.iand, 1) := by decide +kernel
theorem dX1_setHighestFirst_25 : decode cX1_setHighestFirst 25 = .ok (.iastore, 1) := by decide +kernel
theorem dX1_setHighestFirst_26 : decode cX1_setHighestFirst 26 = .ok (.aload_n 0, 1) := by decide +kernel
theorem dX1_setHighestFirst_27 : decode cX1_setHighestFirst 27 = .ok (.getfield 7, 3) := by decide +kernel
theorem dX1_setHighestFirst_30 : decode cX1_setHighestFirst 30 = .ok (.iload_n 1, 1) := by decide +kernel
theorem dX1_setHighestFirst_31 : decode cX1_setHighestFirst 31 = .ok (.iconst 2, 1) := by decide +kernel
theorem dX1_setHighestFirst_32 : decode cX1_setHighestFirst 32 = .ok (.iadd, 1) := by decide +kernel
theorem dX1_setHighestFirst_33 : decode cX1_setHighestFirst 33 = .ok (.iload_n 2, 1) := by decide +kernel
theorem dX1_setHighestFirst_34 : decode cX1_setHighestFirst 34 = .ok (.bipush 8, 2) := by decide +kernel
theorem dX1_setHighestFirst_36 : decode cX1_setHighestFirst 36 = .ok (.iushr, 1) := by decide +kernel
theorem dX1_setHighestFirst_37 : decode cX1_setHighestFirst 37 = .ok (.sipush 255, 3) := by decide +kernel
theorem dX1_setHighestFirst_40 : decode cX1_setHighestFirst 40 = .ok (.iand, 1) := by decide +kernel
theorem dX1_setHighestFirst_41 : decode cX1_setHighestFirst 41 = .ok (.iastore, 1) := by decide +kernel
theorem dX1_setHighestFirst_42 : decode cX1_setHighestFirst 42 = .ok (.aload_n 0, 1) := by decide +kernel
end
section
theorem dX1_setHighestFirst_43 : decode cX1_setHighestFirst 43 = .ok (.getfield 7, 3) := by decide +kernel
theorem dX1_setHighestFirst_46 : decode cX1_setHighestFirst 46 = .ok (.iload_n 1, 1) := by decide +kernel
theorem dX1_setHighestFirst_47 : decode cX1_setHighestFirst 47 = .ok (.iconst 3, 1) := by decide +kernel
theorem dX1_setHighestFirst_48 : decode cX1_setHighestFirst 48 = .ok (.iadd, 1) := by decide +kernel
theorem dX1_setHighestFirst_49 : decode cX1_setHighestFirst 49 = .ok (.iload_n 2, 1) := by decide +kernel
theorem dX1_setHighestFirst_50 : decode cX1_setHighestFirst 50 = .ok (.sipush 255, 3) := by decide +kernel
theorem dX1_setHighestFirst_53 : decode cX1_setHighestFirst 53 = .ok (.iand, 1) := by decide +kernel
theorem dX1_setHighestFirst_54 : decode cX1_setHighestFirst 54 = .ok (.iastore, 1) := by decide +kernel
theorem dX1_setHighestFirst_55 : decode cX1_setHighestFirst 55 = .ok (.return_, 1) := by decide +kernel
theorem dX1_moveTo_0 : decode cX1_moveTo 0 = .ok (.aload_n 0, 1) := by decide +kernel
theorem dX1_moveTo_1 : decode cX1_moveTo 1 = .ok (.getfield 7, 3) := by decide +kernel
theorem dX1_moveTo_4 : decode cX1_moveTo 4 = .ok (.iconst 0, 1) := by decide +kernel
theorem dX1_moveTo_5 : decode cX1_moveTo 5 = .ok (.aload_n 1, 1) := by decide +kernel
theorem dX1_moveTo_6 : decode cX1_moveTo 6 = .ok (.getfield 7, 3) := by decide +kernel
theorem dX1_moveTo_9 : decode cX1_moveTo 9 = .ok (.aload_n 1, 1) := by decide +kernel
theorem dX1_moveTo_10 : decode cX1_moveTo 10 = .ok (.getfield 13, 3) := by decide +kernel
theorem dX1_moveTo_13 : decode cX1_moveTo 13 = .ok (.iload_n 2, 1) := by decide +kernel
theorem dX1_moveTo_14 : decode cX1_moveTo 14 = .ok (.invokestatic 17, 3) := by decide +kernel
theorem dX1_moveTo_17 : decode cX1_moveTo 17 = .ok (.aload_n 1, 1) := by decide +kernel
theorem dX1_moveTo_18 : decode cX1_moveTo 18 = .ok (.dup, 1) := by decide +kernel
theorem dX1_moveTo_19 : decode cX1_moveTo 19 = .ok (.getfield 13, 3) := by decide +kernel
theorem dX1_moveTo_22 : decode cX1_moveTo 22 = .ok (.iload_n 2, 1) := by decide +kernel
theorem dX1_moveTo_23 : decode cX1_moveTo 23 = .ok (.iadd, 1) := by decide +kernel
theorem dX1_moveTo_24 : decode cX1_moveTo 24 = .ok (.putfield 13, 3) := by decide +kernel
theorem dX1_moveTo_27 : decode cX1_moveTo 27 = .ok (.aload_n 0, 1) := by decide +kernel
theorem dX1_moveTo_28 : decode cX1_moveTo 28 = .ok (.dup, 1) := by decide +kernel
theorem dX1_moveTo_29 : decode cX1_moveTo 29 = .ok (.getfield 13, 3) := by decide +kernel
theorem dX1_moveTo_32 : decode cX1_moveTo 32 = .ok (.iload_n 2, 1) := by decide +kernel
theorem dX1_moveTo_33 : decode cX1_moveTo 33 = .ok (.isub, 1) := by decide +kernel
theorem dX1_moveTo_34 : decode cX1_moveTo 34 = .ok (.putfield 13, 3) := by decide +kernel
theorem dX1_moveTo_37 : decode cX1_moveTo 37 = .ok (.aload_n 0, 1) := by decide +kernel
theorem dX1_moveTo_38 : decode cX1_moveTo 38 = .ok (.getfield 7, 3) := by decide +kernel
theorem dX1_moveTo_41 : decode cX1_moveTo 41 = .ok (.iload_n 2, 1) := by decide +kernel
theorem dX1_moveTo_42 : decode cX1_moveTo 42 = .ok (.aload_n 0, 1) := by decide +kernel
theorem dX1_moveTo_43 : decode cX1_moveTo 43 = .ok (.getfield 7, 3) := by decide +kernel
theorem dX1_moveTo_46 : decode cX1_moveTo 46 = .ok (.iconst 0, 1) := by decide +kernel
theorem dX1_moveTo_47 : decode cX1_moveTo 47 = .ok (.aload_n 0, 1) := by decide +kernel
theorem dX1_moveTo_48 : decode cX1_moveTo 48 = .ok (.getfield 13, 3) := by decide +kernel
theorem dX1_moveTo_51 : decode cX1_moveTo 51 = .ok (.invokestatic 17, 3) := by decide +kernel
theorem dX1_moveTo_54 : decode cX1_moveTo 54 = .ok (.return_, 1) := by decide +kernel
set_option maxRecDepth 20000 in
theorem ggX2_init_X0_init : GoodIn wsX2_init wsX0_init := goodIn_r _ [16, 17, 2, 3, 18, 9, 10, 19, 20, 21, 22, 23, 24, 25, 26, 27, 28, 29, 30, 7, 31, 32, 33, 34, 35, 36, 37, 38, 39, 40, 41, 42, 62, 63, 51, 52, 53, 54, 55, 56, 57, 58, 59, 60, 61] (by decide +kernel) (by decide +kernel)
set_option maxRecDepth 20000 in
theorem gX2_init_X0_init : GoodIn wsX2_init (wsX0_init) := ggX2_init_X0_init
set_option maxRecDepth 20000 in
theorem ggX2_init_X1_init : GoodIn wsX2_init wsX1_init := goodIn_r _ [25, 26, 2, 3, 20, 27, 62, 63] (by decide +kernel) (by decide +kernel)
set_option maxRecDepth 20000 in
theorem gX2_init_X1_init : GoodIn wsX2_init (wsX1_init) := ggX2_init_X1_init
theorem dX2_init_0 : decode cX2_init 0 = .ok (.aload_n 0, 1) := by decide +kernel
theorem dX2_init_1 : decode cX2_init 1 = .ok (.invokespecial 1, 3) := by decide +kernel
theorem dX2_init_4 : decode cX2_init 4 = .ok (.aload_n 0, 1) := by decide +kernel
theorem dX2_init_5 : decode cX2_init 5 = .ok (.iconst 4, 1) := by decide +kernel
theorem dX2_init_6 : decode cX2_init 6 = .ok (.anewarray 9, 3) := by decide +kernel
theorem dX2_init_9 : decode cX2_init 9 = .ok (.putfield 11, 3) := by decide +kernel
theorem dX2_init_12 : decode cX2_init 12 = .ok (.iconst 0, 1) := by decide +kernel
theorem dX2_init_13 : decode cX2_init 13 = .ok (.istore_n 1, 1) := by decide +kernel
theorem dX2_init_14 : decode cX2_init 14 = .ok (.iload_n 1, 1) := by decide +kernel
theorem dX2_init_15 : decode cX2_init 15 = .ok (.iconst 4, 1) := by decide +kernel
theorem dX2_init_16 : decode cX2_init 16 = .ok (.if_icmp .ge 22, 3) := by decide +kernel
theorem dX2_init_19 : decode cX2_init 19 = .ok (.aload_n 0, 1) := by decide +kernel
theorem dX2_init_20 : decode cX2_init 20 = .ok (.getfield 11, 3) := by decide +kernel
theorem dX2_init_23 : decode cX2_init 23 = .ok (.iload_n 1, 1) := by decide +kernel
theorem dX2_init_24 : decode cX2_init 24 = .ok (.new 9, 3) := by decide +kernel
theorem dX2_init_27 : decode cX2_init 27 = .ok (.dup, 1) := by decide +kernel
theorem dX2_init_28 : decode cX2_init 28 = .ok (.invokespecial 15, 3) := by decide +kernel
theorem dX2_init_31 : decode cX2_init 31 = .ok (.aastore, 1) := by decide +kernel
theorem dX2_init_32 : decode cX2_init 32 = .ok (.iinc 1 1, 3) := by decide +kernel
theorem dX2_init_35 : decode cX2_init 35 = .ok (.goto (-21), 3) := by decide +kernel
theorem dX2_init_38 : decode cX2_init 38 = .ok (.aload_n 0, 1) := by decide +kernel
theorem dX2_init_39 : decode cX2_init 39 = .ok (.new 16, 3) := by decide +kernel
theorem dX2_init_42 : decode cX2_init 42 = .ok (.dup, 1) := by decide +kernel
theorem dX2_init_43 : decode cX2_init 43 = .ok (.bipush 64, 2) := by decide +kernel
theorem dX2_init_45 : decode cX2_init 45 = .ok (.invokespecial 18, 3) := by decide +kernel
theorem dX2_init_48 : decode cX2_init 48 = .ok (.putfield 21, 3) := by decide +kernel
theorem dX2_init_51 : decode cX2_init 51 = .ok (.aload_n 0, 1) := by decide +kernel
theorem dX2_init_52 : decode cX2_init 52 = .ok (.new 16, 3) := by decide +kernel
theorem dX2_init_55 : decode cX2_init 55 = .ok (.dup, 1) := by decide +kernel
theorem dX2_init_56 : decode cX2_init 56 = .ok (.sipush 2000, 3) := by decide +kernel
theorem dX2_init_59 : decode cX2_init 59 = .ok (.invokespecial 18, 3) := by decide +kernel
theorem dX2_init_62 : decode cX2_init 62 = .ok (.putfield 25, 3) := by decide +kernel
theorem dX2_init_65 : decode cX2_init 65 = .ok (.aload_n 0, 1) := by decide +kernel
theorem dX2_init_66 : decode cX2_init 66 = .ok (.iconst 1, 1) := by decide +kernel
theorem dX2_init_67 : decode cX2_init 67 = .ok (.putfield 28, 3) := by decide +kernel
theorem dX2_init_70 : decode cX2_init 70 = .ok (.return_, 1) := by decide +kernel
set_option maxRecDepth 20000 in
theorem ggX2_filter_X0_become : GoodIn wsX2_filter wsX0_become := goodIn_r _ [8, 9, 10, 47, 48, 49, 50, 51, 52, 53, 54, 55, 56, 57] (by decide +kernel) (by decide +kernel)
set_option maxRecDepth 20000 in
theorem gX2_filter_X0_become : GoodIn wsX2_filter (wsV RX2 43 RX0 yX0_become wsX0_become) := goodIn_app (goodIn_of _ (by decide +kernel)) ggX2_filter_X0_become
set_option maxRecDepth 20000 in
theorem ggX2_filter_X2_beginAnew : GoodIn wsX2_filter wsX2_beginAnew := goodIn_r _ [15, 16, 17, 18, 3, 19, 20, 21, 22, 23, 24, 25, 26, 27, 28, 29, 7, 30, 31, 32, 33, 34, 35, 36, 37, 38, 39, 40, 41, 42, 43, 44, 45, 46, 58, 59, 47, 48, 49, 50, 51, 52, 53, 54, 55, 56, 57] (by decide +kernel) (by decide +kernel)
set_option maxRecDepth 20000 in
theorem gX2_filter_X2_beginAnew : GoodIn wsX2_filter (wsV RX2 47 RX2 yX2_beginAnew wsX2_beginAnew) := goodIn_app (goodIn_of _ (by decide +kernel)) ggX2_filter_X2_beginAnew
theorem dX2_filter_0 : decode cX2_filter 0 = .ok (.iload_n 1, 1) := by decide +kernel
theorem dX2_filter_1 : decode cX2_filter 1 = .ok (.ifCond .lt 8, 3) := by decide +kernel
theorem dX2_filter_4 : decode cX2_filter 4 = .ok (.iload_n 1, 1) := by decide +kernel
theorem dX2_filter_5 : decode cX2_filter 5 = .ok (.iconst 4, 1) := by decide +kernel
theorem dX2_filter_6 : decode cX2_filter 6 = .ok (.if_icmp .lt 13, 3) := by decide +kernel
theorem dX2_filter_9 : decode cX2_filter 9 = .ok (.new 32, 3) := by decide +kernel
theorem dX2_filter_12 : decode cX2_filter 12 = .ok (.dup, 1) := by decide +kernel
theorem dX2_filter_13 : decode cX2_filter 13 = .ok (.ldc 34, 2) := by decide +kernel
theorem dX2_filter_15 : decode cX2_filter 15 = .ok (.invokespecial 36, 3) := by decide +kernel
theorem dX2_filter_18 : decode cX2_filter 18 = .ok (.athrow, 1) := by decide +kernel
theorem dX2_filter_19 : decode cX2_filter 19 = .ok (.iload_n 2, 1) := by decide +kernel
theorem dX2_filter_20 : decode cX2_filter 20 = .ok (.ifCond .lt 9, 3) := by decide +kernel
theorem dX2_filter_23 : decode cX2_filter 23 = .ok (.iload_n 2, 1) := by decide +kernel
theorem dX2_filter_24 : decode cX2_filter 24 = .ok (.bipush 8, 2) := by decide +kernel
theorem dX2_filter_26 : decode cX2_filter 26 = .ok (.if_icmp .lt 13, 3) := by decide +kernel
theorem dX2_filter_29 : decode cX2_filter 29 = .ok (.new 32, 3) := by decide +kernel
theorem dX2_filter_32 : decode cX2_filter 32 = .ok (.dup, 1) := by decide +kernel
theorem dX2_filter_33 : decode cX2_filter 33 = .ok (.ldc 39, 2) := by decide +kernel
theorem dX2_filter_35 : decode cX2_filter 35 = .ok (.invokespecial 36, 3) := by decide +kernel
theorem dX2_filter_38 : decode cX2_filter 38 = .ok (.athrow, 1) := by decide +kernel
theorem dX2_filter_39 : decode cX2_filter 39 = .ok (.iload_n 3, 1) := by decide +kernel
theorem dX2_filter_40 : decode cX2_filter 40 = .ok (.iconst 1, 1) := by decide +kernel
theorem dX2_filter_41 : decode cX2_filter 41 = .ok (.if_icmp .lt 9, 3) := by decide +kernel
theorem dX2_filter_44 : decode cX2_filter 44 = .ok (.iload_n 3, 1) := by decide +kernel
theorem dX2_filter_45 : decode cX2_filter 45 = .ok (.bipush 32, 2) := by decide +kernel
theorem dX2_filter_47 : decode cX2_filter 47 = .ok (.if_icmp .le 13, 3) := by decide +kernel
theorem dX2_filter_50 : decode cX2_filter 50 = .ok (.new 32, 3) := by decide +kernel
theorem dX2_filter_53 : decode cX2_filter 53 = .ok (.dup, 1) := by decide +kernel
theorem dX2_filter_54 : decode cX2_filter 54 = .ok (.ldc 41, 2) := by decide +kernel
theorem dX2_filter_56 : decode cX2_filter 56 = .ok (.invokespecial 36, 3) := by decide +kernel
theorem dX2_filter_59 : decode cX2_filter 59 = .ok (.athrow, 1) := by decide +kernel
theorem dX2_filter_60 : decode cX2_filter 60 = .ok (.aload_n 0, 1) := by decide +kernel
theorem dX2_filter_61 : decode cX2_filter 61 = .ok (.getfield 11, 3) := by decide +kernel
theorem dX2_filter_64 : decode cX2_filter 64 = .ok (.iload_n 1, 1) := by decide +kernel
theorem dX2_filter_65 : decode cX2_filter 65 = .ok (.aaload, 1) := by decide +kernel
theorem dX2_filter_66 : decode cX2_filter 66 = .ok (.iload_n 2, 1) := by decide +kernel
theorem dX2_filter_67 : decode cX2_filter 67 = .ok (.iload_n 3, 1) := by decide +kernel
theorem dX2_filter_68 : decode cX2_filter 68 = .ok (.invokevirtual 43, 3) := by decide +kernel
theorem dX2_filter_71 : decode cX2_filter 71 = .ok (.aload_n 0, 1) := by decide +kernel
theorem dX2_filter_72 : decode cX2_filter 72 = .ok (.invokevirtual 47, 3) := by decide +kernel
theorem dX2_filter_75 : decode cX2_filter 75 = .ok (.return_, 1) := by decide +kernel
set_option maxRecDepth 20000 in
theorem ggX2_begin_X2_beginAnew : GoodIn wsX2_begin wsX2_beginAnew := goodIn_r _ [7, 8, 9, 10, 11, 1, 2, 12, 13, 14, 15, 16, 17, 18, 19, 20, 21, 22, 23, 24, 25, 26, 27, 28, 29, 30, 31, 32, 33, 34, 35, 36, 37, 38, 39, 40, 41, 42, 43, 44, 45, 46, 47, 48, 49, 50, 51] (by decide +kernel) (by decide +kernel)
set_option maxRecDepth 20000 in
theorem gX2_begin_X2_beginAnew : GoodIn wsX2_begin (wsV RX2 47 RX2 yX2_beginAnew wsX2_beginAnew) := goodIn_app (goodIn_of _ (by decide +kernel)) ggX2_begin_X2_beginAnew
theorem dX2_begin_0 : decode cX2_begin 0 = .ok (.aload_n 0, 1) := by decide +kernel
theorem dX2_begin_1 : decode cX2_begin 1 = .ok (.iload_n 1, 1) := by decide +kernel
theorem dX2_begin_2 : decode cX2_begin 2 = .ok (.putfield 50, 3) := by decide +kernel
theorem dX2_begin_5 : decode cX2_begin 5 = .ok (.aload_n 0, 1) := by decide +kernel
theorem dX2_begin_6 : decode cX2_begin 6 = .ok (.iload_n 2, 1) := by decide +kernel
theorem dX2_begin_7 : decode cX2_begin 7 = .ok (.putfield 28, 3) := by decide +kernel
theorem dX2_begin_10 : decode cX2_begin 10 = .ok (.aload_n 0, 1) := by decide +kernel
theorem dX2_begin_11 : decode cX2_begin 11 = .ok (.invokevirtual 47, 3) := by decide +kernel
theorem dX2_begin_14 : decode cX2_begin 14 = .ok (.return_, 1) := by decide +kernel
set_option maxRecDepth 20000 in
theorem ggX2_feed_X1_add : GoodIn wsX2_feed wsX1_add := goodIn_r _ [13, 14, 15, 157, 158] (by decide +kernel) (by decide +kernel)
set_option maxRecDepth 20000 in
theorem gX2_feed_X1_add : GoodIn wsX2_feed (wsV RX2 68 RX1 yX1_add wsX1_add) := goodIn_app (goodIn_of _ (by decide +kernel)) ggX2_feed_X1_add
set_option maxRecDepth 20000 in
theorem ggX2_feed_X2_sendThroughChain : GoodIn wsX2_feed wsX2_sendThroughChain := goodIn_r _ [20, 21, 22, 7, 8, 23, 24, 25, 26, 27, 28, 29, 30, 31, 32, 33, 34, 35, 36, 12, 37, 15, 38, 39, 40, 41, 14, 42, 43, 44, 45, 46, 47, 48, 49, 50, 51, 52, 53, 54, 55, 56, 57, 58, 59, 60, 61, 62, 63, 64, 65, 66, 67, 68, 69, 70, 71, 72, 73, 74, 75, 76, 77, 78, 79, 80, 81, 82, 83, 84, 85, 86, 87, 88, 89, 90, 91, 92, 93, 94, 95, 96, 97, 98, 99, 100, 101, 102, 103, 104, 105, 106, 107, 108, 109, 110, 111, 112, 113, 114, 115, 116, 117, 118, 119, 120, 121, 122, 123, 124, 125, 126, 127, 128, 129, 130, 131, 132, 133, 134, 135, 136, 137, 138, 139, 140, 141, 142, 143, 144, 145, 146, 147, 148, 149, 150, 151, 152, 153, 154, 155, 156, 159, 160, 161, 162, 163, 164, 165, 166, 167, 168, 169, 157, 158] (by decide +kernel) (by decide +kernel)
set_option maxRecDepth 20000 in
theorem gX2_feed_X2_sendThroughChain : GoodIn wsX2_feed (wsV RX2 71 RX2 yX2_sendThroughChain wsX2_sendThroughChain) := goodIn_app (goodIn_of _ (by decide +kernel)) ggX2_feed_X2_sendThroughChain
set_option maxRecDepth 20000 in
theorem ggX2_feed_X1_size : GoodIn wsX2_feed wsX1_size := goodIn_r _ [37, 15, 157, 158] (by decide +kernel) (by decide +kernel)
set_option maxRecDepth 20000 in
theorem gX2_feed_X1_size : GoodIn wsX2_feed (wsV RX2 75 RX1 yX1_size wsX1_size) := goodIn_app (goodIn_of _ (by decide +kernel)) ggX2_feed_X1_size
theorem dX2_feed_0 : decode cX2_feed 0 = .ok (.iload_n 1, 1) := by decide +kernel
theorem dX2_feed_1 : decode cX2_feed 1 = .ok (.ifCond .lt 9, 3) := by decide +kernel
theorem dX2_feed_4 : decode cX2_feed 4 = .ok (.iload_n 1, 1) := by decide +kernel
theorem dX2_feed_5 : decode cX2_feed 5 = .ok (.bipush 16, 2) := by decide +kernel
theorem dX2_feed_7 : decode cX2_feed 7 = .ok (.if_icmp .le 13, 3) := by decide +kernel
theorem dX2_feed_10 : decode cX2_feed 10 = .ok (.new 32, 3) := by decide +kernel
theorem dX2_feed_13 : decode cX2_feed 13 = .ok (.dup, 1) := by decide +kernel
theorem dX2_feed_14 : decode cX2_feed 14 = .ok (.ldc 54, 2) := by decide +kernel
theorem dX2_feed_16 : decode cX2_feed 16 = .ok (.invokespecial 36, 3) := by decide +kernel
theorem dX2_feed_19 : decode cX2_feed 19 = .ok (.athrow, 1) := by decide +kernel
theorem dX2_feed_20 : decode cX2_feed 20 = .ok (.aload_n 0, 1) := by decide +kernel
theorem dX2_feed_21 : decode cX2_feed 21 = .ok (.getfield 56, 3) := by decide +kernel
theorem dX2_feed_24 : decode cX2_feed 24 = .ok (.ifCond .eq 13, 3) := by decide +kernel
theorem dX2_feed_27 : decode cX2_feed 27 = .ok (.new 59, 3) := by decide +kernel
theorem dX2_feed_30 : decode cX2_feed 30 = .ok (.dup, 1) := by decide +kernel
theorem dX2_feed_31 : decode cX2_feed 31 = .ok (.ldc 61, 2) := by decide +kernel
theorem dX2_feed_33 : decode cX2_feed 33 = .ok (.invokespecial 62, 3) := by decide +kernel
theorem dX2_feed_36 : decode cX2_feed 36 = .ok (.athrow, 1) := by decide +kernel
theorem dX2_feed_37 : decode cX2_feed 37 = .ok (.aload_n 0, 1) := by decide +kernel
theorem dX2_feed_38 : decode cX2_feed 38 = .ok (.getfield 63, 3) := by decide +kernel
theorem dX2_feed_41 : decode cX2_feed 41 = .ok (.iload_n 1, 1) := by decide +kernel
theorem dX2_feed_42 : decode cX2_feed 42 = .ok (.iadd, 1) := by decide +kernel
theorem dX2_feed_43 : decode cX2_feed 43 = .ok (.sipush 2000, 3) := by decide +kernel
theorem dX2_feed_46 : decode cX2_feed 46 = .ok (.if_icmp .le 13, 3) := by decide +kernel
theorem dX2_feed_49 : decode cX2_feed 49 = .ok (.new 59, 3) := by decide +kernel
theorem dX2_feed_52 : decode cX2_feed 52 = .ok (.dup, 1) := by decide +kernel
theorem dX2_feed_53 : decode cX2_feed 53 = .ok (.ldc 66, 2) := by decide +kernel
theorem dX2_feed_55 : decode cX2_feed 55 = .ok (.invokespecial 62, 3) := by decide +kernel
theorem dX2_feed_58 : decode cX2_feed 58 = .ok (.athrow, 1) := by decide +kernel
theorem dX2_feed_59 : decode cX2_feed 59 = .ok (.aload_n 0, 1) := by decide +kernel
theorem dX2_feed_60 : decode cX2_feed 60 = .ok (.dup, 1) := by decide +kernel
theorem dX2_feed_61 : decode cX2_feed 61 = .ok (.getfield 63, 3) := by decide +kernel
theorem dX2_feed_64 : decode cX2_feed 64 = .ok (.iload_n 1, 1) := by decide +kernel
theorem dX2_feed_65 : decode cX2_feed 65 = .ok (.iadd, 1) := by decide +kernel
theorem dX2_feed_66 : decode cX2_feed 66 = .ok (.putfield 63, 3) := by decide +kernel
theorem dX2_feed_69 : decode cX2_feed 69 = .ok (.iconst 0, 1) := by decide +kernel
theorem dX2_feed_70 : decode cX2_feed 70 = .ok (.istore 6, 2) := by decide +kernel
theorem dX2_feed_72 : decode cX2_feed 72 = .ok (.iload 6, 2) := by decide +kernel
theorem dX2_feed_74 : decode cX2_feed 74 = .ok (.iload_n 1, 1) := by decide +kernel
theorem dX2_feed_75 : decode cX2_feed 75 = .ok (.if_icmp .ge 66, 3) := by decide +kernel
theorem dX2_feed_78 : decode cX2_feed 78 = .ok (.iload 6, 2) := by decide +kernel
theorem dX2_feed_80 : decode cX2_feed 80 = .ok (.iconst 4, 1) := by decide +kernel
theorem dX2_feed_81 : decode cX2_feed 81 = .ok (.if_icmp .ge 7, 3) := by decide +kernel
theorem dX2_feed_84 : decode cX2_feed 84 = .ok (.iload_n 2, 1) := by decide +kernel
theorem dX2_feed_85 : decode cX2_feed 85 = .ok (.goto 28, 3) := by decide +kernel
theorem dX2_feed_88 : decode cX2_feed 88 = .ok (.iload 6, 2) := by decide +kernel
theorem dX2_feed_90 : decode cX2_feed 90 = .ok (.bipush 8, 2) := by decide +kernel
theorem dX2_feed_92 : decode cX2_feed 92 = .ok (.if_icmp .ge 7, 3) := by decide +kernel
theorem dX2_feed_95 : decode cX2_feed 95 = .ok (.iload_n 3, 1) := by decide +kernel
theorem dX2_feed_96 : decode cX2_feed 96 = .ok (.goto 17, 3) := by decide +kernel
theorem dX2_feed_99 : decode cX2_feed 99 = .ok (.iload 6, 2) := by decide +kernel
theorem dX2_feed_101 : decode cX2_feed 101 = .ok (.bipush 12, 2) := by decide +kernel
theorem dX2_feed_103 : decode cX2_feed 103 = .ok (.if_icmp .ge 8, 3) := by decide +kernel
theorem dX2_feed_106 : decode cX2_feed 106 = .ok (.iload 4, 2) := by decide +kernel
theorem dX2_feed_108 : decode cX2_feed 108 = .ok (.goto 5, 3) := by decide +kernel
theorem dX2_feed_111 : decode cX2_feed 111 = .ok (.iload 5, 2) := by decide +kernel
theorem dX2_feed_113 : decode cX2_feed 113 = .ok (.istore 7, 2) := by decide +kernel
theorem dX2_feed_115 : decode cX2_feed 115 = .ok (.aload_n 0, 1) := by decide +kernel
theorem dX2_feed_116 : decode cX2_feed 116 = .ok (.getfield 21, 3) := by decide +kernel
theorem dX2_feed_119 : decode cX2_feed 119 = .ok (.iload 7, 2) := by decide +kernel
theorem dX2_feed_121 : decode cX2_feed 121 = .ok (.bipush 24, 2) := by decide +kernel
theorem dX2_feed_123 : decode cX2_feed 123 = .ok (.bipush 8, 2) := by decide +kernel
theorem dX2_feed_125 : decode cX2_feed 125 = .ok (.iload 6, 2) := by decide +kernel
theorem dX2_feed_127 : decode cX2_feed 127 = .ok (.iconst 4, 1) := by decide +kernel
theorem dX2_feed_128 : decode cX2_feed 128 = .ok (.irem, 1) := by decide +kernel
theorem dX2_feed_129 : decode cX2_feed 129 = .ok (.imul, 1) := by decide +kernel
theorem dX2_feed_130 : decode cX2_feed 130 = .ok (.isub, 1) := by decide +kernel
theorem dX2_feed_131 : decode cX2_feed 131 = .ok (.iushr, 1) := by decide +kernel
theorem dX2_feed_132 : decode cX2_feed 132 = .ok (.invokevirtual 68, 3) := by decide +kernel
theorem dX2_feed_135 : decode cX2_feed 135 = .ok (.iinc 6 1, 3) := by decide +kernel
theorem dX2_feed_138 : decode cX2_feed 138 = .ok (.goto (-66), 3) := by decide +kernel
theorem dX2_feed_141 : decode cX2_feed 141 = .ok (.aload_n 0, 1) := by decide +kernel
theorem dX2_feed_142 : decode cX2_feed 142 = .ok (.iconst 0, 1) := by decide +kernel
theorem dX2_feed_143 : decode cX2_feed 143 = .ok (.invokevirtual 71, 3) := by decide +kernel
theorem dX2_feed_146 : decode cX2_feed 146 = .ok (.aload_n 0, 1) := by decide +kernel
theorem dX2_feed_147 : decode cX2_feed 147 = .ok (.getfield 25, 3) := by decide +kernel
theorem dX2_feed_150 : decode cX2_feed 150 = .ok (.invokevirtual 75, 3) := by decide +kernel
theorem dX2_feed_153 : decode cX2_feed 153 = .ok (.ireturn, 1) := by decide +kernel
set_option maxRecDepth 20000 in
theorem ggX2_finish_X2_sendThroughChain : GoodIn wsX2_finish wsX2_sendThroughChain := goodIn_r _ [9, 10, 11, 12, 4, 13, 14, 15, 16, 17, 18, 19, 20, 21, 22, 23, 24, 25, 26, 27, 28, 29, 30, 31, 32, 33, 34, 35, 36, 37, 38, 39, 40, 41, 42, 43, 44, 45, 46, 47, 48, 49, 50, 51, 52, 53, 54, 55, 56, 57, 58, 59, 60, 61, 62, 63, 64, 65, 66, 67, 68, 69, 70, 71, 72, 73, 74, 75, 76, 77, 78, 79, 80, 81, 82, 83, 84, 85, 86, 87, 88, 89, 90, 91, 92, 93, 94, 95, 96, 97, 98, 99, 100, 101, 102, 103, 104, 105, 106, 107, 108, 109, 110, 111, 112, 113, 114, 115, 116, 117, 118, 119, 120, 121, 122, 123, 124, 125, 126, 127, 128, 129, 130, 131, 132, 133, 134, 135, 136, 137, 138, 139, 140, 141, 142, 143, 144, 145, 146, 147, 148, 149, 150, 151, 152, 153, 154, 155, 156, 157, 158, 159, 160, 161, 162] (by decide +kernel) (by decide +kernel)
set_option maxRecDepth 20000 in
theorem gX2_finish_X2_sendThroughChain : GoodIn wsX2_finish (wsV RX2 71 RX2 yX2_sendThroughChain wsX2_sendThroughChain) := goodIn_app (goodIn_of _ (by decide +kernel)) ggX2_finish_X2_sendThroughChain
set_option maxRecDepth 20000 in
theorem ggX2_finish_X1_size : GoodIn wsX2_finish wsX1_size := goodIn_r _ [28, 29, 161, 162] (by decide +kernel) (by decide +kernel)
set_option maxRecDepth 20000 in
theorem gX2_finish_X1_size : GoodIn wsX2_finish (wsV RX2 75 RX1 yX1_size wsX1_size) := goodIn_app (goodIn_of _ (by decide +kernel)) ggX2_finish_X1_size
theorem dX2_finish_0 : decode cX2_finish 0 = .ok (.aload_n 0, 1) := by decide +kernel
theorem dX2_finish_1 : decode cX2_finish 1 = .ok (.getfield 56, 3) := by decide +kernel
theorem dX2_finish_4 : decode cX2_finish 4 = .ok (.ifCond .eq 13, 3) := by decide +kernel
theorem dX2_finish_7 : decode cX2_finish 7 = .ok (.new 59, 3) := by decide +kernel
theorem dX2_finish_10 : decode cX2_finish 10 = .ok (.dup, 1) := by decide +kernel
theorem dX2_finish_11 : decode cX2_finish 11 = .ok (.ldc 61, 2) := by decide +kernel
theorem dX2_finish_13 : decode cX2_finish 13 = .ok (.invokespecial 62, 3) := by decide +kernel
theorem dX2_finish_16 : decode cX2_finish 16 = .ok (.athrow, 1) := by decide +kernel
theorem dX2_finish_17 : decode cX2_finish 17 = .ok (.aload_n 0, 1) := by decide +kernel
theorem dX2_finish_18 : decode cX2_finish 18 = .ok (.iconst 1, 1) := by decide +kernel
theorem dX2_finish_19 : decode cX2_finish 19 = .ok (.putfield 56, 3) := by decide +kernel
theorem dX2_finish_22 : decode cX2_finish 22 = .ok (.aload_n 0, 1) := by decide +kernel
theorem dX2_finish_23 : decode cX2_finish 23 = .ok (.iconst 1, 1) := by decide +kernel
theorem dX2_finish_24 : decode cX2_finish 24 = .ok (.invokevirtual 71, 3) := by decide +kernel
theorem dX2_finish_27 : decode cX2_finish 27 = .ok (.aload_n 0, 1) := by decide +kernel
theorem dX2_finish_28 : decode cX2_finish 28 = .ok (.getfield 25, 3) := by decide +kernel
theorem dX2_finish_31 : decode cX2_finish 31 = .ok (.invokevirtual 75, 3) := by decide +kernel
theorem dX2_finish_34 : decode cX2_finish 34 = .ok (.ireturn, 1) := by decide +kernel
set_option maxRecDepth 20000 in
theorem ggX2_output_X1_size : GoodIn wsX2_output wsX1_size := goodIn_r _ [6, 7, 20, 21] (by decide +kernel) (by decide +kernel)
set_option maxRecDepth 20000 in
theorem gX2_output_X1_size : GoodIn wsX2_output (wsV RX2 75 RX1 yX1_size wsX1_size) := goodIn_app (goodIn_of _ (by decide +kernel)) ggX2_output_X1_size
set_option maxRecDepth 20000 in
theorem ggX2_output_X1_at : GoodIn wsX2_output wsX1_at := goodIn_r _ [11, 12, 20, 21] (by decide +kernel) (by decide +kernel)
set_option maxRecDepth 20000 in
theorem gX2_output_X1_at : GoodIn wsX2_output (wsV RX2 79 RX1 yX1_at wsX1_at) := goodIn_app (goodIn_of _ (by decide +kernel)) ggX2_output_X1_at
theorem dX2_output_0 : decode cX2_output 0 = .ok (.iload_n 1, 1) := by decide +kernel
theorem dX2_output_1 : decode cX2_output 1 = .ok (.ifCond .lt 14, 3) := by decide +kernel
theorem dX2_output_4 : decode cX2_output 4 = .ok (.iload_n 1, 1) := by decide +kernel
theorem dX2_output_5 : decode cX2_output 5 = .ok (.aload_n 0, 1) := by decide +kernel
theorem dX2_output_6 : decode cX2_output 6 = .ok (.getfield 25, 3) := by decide +kernel
theorem dX2_output_9 : decode cX2_output 9 = .ok (.invokevirtual 75, 3) := by decide +kernel
theorem dX2_output_12 : decode cX2_output 12 = .ok (.if_icmp .lt 7, 3) := by decide +kernel
theorem dX2_output_15 : decode cX2_output 15 = .ok (.iconst (-1), 1) := by decide +kernel
theorem dX2_output_16 : decode cX2_output 16 = .ok (.goto 11, 3) := by decide +kernel
theorem dX2_output_19 : decode cX2_output 19 = .ok (.aload_n 0, 1) := by decide +kernel
theorem dX2_output_20 : decode cX2_output 20 = .ok (.getfield 25, 3) := by decide +kernel
theorem dX2_output_23 : decode cX2_output 23 = .ok (.iload_n 1, 1) := by decide +kernel
theorem dX2_output_24 : decode cX2_output 24 = .ok (.invokevirtual 79, 3) := by decide +kernel
theorem dX2_output_27 : decode cX2_output 27 = .ok (.ireturn, 1) := by decide +kernel
set_option maxRecDepth 20000 in
theorem ggX2_count_X1_size : GoodIn wsX2_count wsX1_size := goodIn_r _ [8, 9, 28, 29] (by decide +kernel) (by decide +kernel)
set_option maxRecDepth 20000 in
theorem gX2_count_X1_size : GoodIn wsX2_count (wsV RX2 75 RX1 yX1_size wsX1_size) := goodIn_app (goodIn_of _ (by decide +kernel)) ggX2_count_X1_size
theorem dX2_count_0 : decode cX2_count 0 = .ok (.iload_n 1, 1) := by decide +kernel
theorem dX2_count_1 : decode cX2_count 1 = .ok (.ifCond .lt 8, 3) := by decide +kernel
theorem dX2_count_4 : decode cX2_count 4 = .ok (.iload_n 1, 1) := by decide +kernel
theorem dX2_count_5 : decode cX2_count 5 = .ok (.iconst 4, 1) := by decide +kernel
theorem dX2_count_6 : decode cX2_count 6 = .ok (.if_icmp .lt 13, 3) := by decide +kernel
theorem dX2_count_9 : decode cX2_count 9 = .ok (.new 32, 3) := by decide +kernel
theorem dX2_count_12 : decode cX2_count 12 = .ok (.dup, 1) := by decide +kernel
theorem dX2_count_13 : decode cX2_count 13 = .ok (.ldc 34, 2) := by decide +kernel
theorem dX2_count_15 : decode cX2_count 15 = .ok (.invokespecial 36, 3) := by decide +kernel
theorem dX2_count_18 : decode cX2_count 18 = .ok (.athrow, 1) := by decide +kernel
theorem dX2_count_19 : decode cX2_count 19 = .ok (.aload_n 0, 1) := by decide +kernel
theorem dX2_count_20 : decode cX2_count 20 = .ok (.getfield 11, 3) := by decide +kernel
theorem dX2_count_23 : decode cX2_count 23 = .ok (.iload_n 1, 1) := by decide +kernel
theorem dX2_count_24 : decode cX2_count 24 = .ok (.aaload, 1) := by decide +kernel
theorem dX2_count_25 : decode cX2_count 25 = .ok (.astore_n 3, 1) := by decide +kernel
theorem dX2_count_26 : decode cX2_count 26 = .ok (.iload_n 2, 1) := by decide +kernel
theorem dX2_count_27 : decode cX2_count 27 = .ok (.tableswitch 70 0 5 #[37, 42, 47, 55, 60, 65], 37) := by decide +kernel
theorem dX2_count_64 : decode cX2_count 64 = .ok (.aload_n 3, 1) := by decide +kernel
theorem dX2_count_65 : decode cX2_count 65 = .ok (.getfield 83, 3) := by decide +kernel
theorem dX2_count_68 : decode cX2_count 68 = .ok (.ireturn, 1) := by decide +kernel
theorem dX2_count_69 : decode cX2_count 69 = .ok (.aload_n 3, 1) := by decide +kernel
theorem dX2_count_70 : decode cX2_count 70 = .ok (.getfield 86, 3) := by decide +kernel
theorem dX2_count_73 : decode cX2_count 73 = .ok (.ireturn, 1) := by decide +kernel
theorem dX2_count_74 : decode cX2_count 74 = .ok (.aload_n 3, 1) := by decide +kernel
theorem dX2_count_75 : decode cX2_count 75 = .ok (.getfield 89, 3) := by decide +kernel
theorem dX2_count_78 : decode cX2_count 78 = .ok (.invokevirtual 75, 3) := by decide +kernel
theorem dX2_count_81 : decode cX2_count 81 = .ok (.ireturn, 1) := by decide +kernel
theorem dX2_count_82 : decode cX2_count 82 = .ok (.aload_n 3, 1) := by decide +kernel
theorem dX2_count_83 : decode cX2_count 83 = .ok (.getfield 92, 3) := by decide +kernel
theorem dX2_count_86 : decode cX2_count 86 = .ok (.ireturn, 1) := by decide +kernel
theorem dX2_count_87 : decode cX2_count 87 = .ok (.aload_n 3, 1) := by decide +kernel
theorem dX2_count_88 : decode cX2_count 88 = .ok (.getfield 95, 3) := by decide +kernel
theorem dX2_count_91 : decode cX2_count 91 = .ok (.ireturn, 1) := by decide +kernel
theorem dX2_count_92 : decode cX2_count 92 = .ok (.aload_n 3, 1) := by decide +kernel
theorem dX2_count_93 : decode cX2_count 93 = .ok (.getfield 98, 3) := by decide +kernel
theorem dX2_count_96 : decode cX2_count 96 = .ok (.ireturn, 1) := by decide +kernel
theorem dX2_count_97 : decode cX2_count 97 = .ok (.new 32, 3) := by decide +kernel
theorem dX2_count_100 : decode cX2_count 100 = .ok (.dup, 1) := by decide +kernel
theorem dX2_count_101 : decode cX2_count 101 = .ok (.ldc 101, 2) := by decide +kernel
theorem dX2_count_103 : decode cX2_count 103 = .ok (.invokespecial 36, 3) := by decide +kernel
theorem dX2_count_106 : decode cX2_count 106 = .ok (.athrow, 1) := by decide +kernel
set_option maxRecDepth 20000 in
theorem ggX2_word_X1_size : GoodIn wsX2_word wsX1_size := goodIn_r _ [8, 9, 22, 23] (by decide +kernel) (by decide +kernel)
set_option maxRecDepth 20000 in
theorem gX2_word_X1_size : GoodIn wsX2_word (wsV RX2 75 RX1 yX1_size wsX1_size) := goodIn_app (goodIn_of _ (by decide +kernel)) ggX2_word_X1_size
set_option maxRecDepth 20000 in
theorem ggX2_word_X1_lowestFirst : GoodIn wsX2_word wsX1_lowestFirst := goodIn_r _ [13, 14, 22, 23] (by decide +kernel) (by decide +kernel)
set_option maxRecDepth 20000 in
theorem gX2_word_X1_lowestFirst : GoodIn wsX2_word (wsV RX2 108 RX1 yX1_lowestFirst wsX1_lowestFirst) := goodIn_app (goodIn_of _ (by decide +kernel)) ggX2_word_X1_lowestFirst
theorem dX2_word_0 : decode cX2_word 0 = .ok (.iload_n 1, 1) := by decide +kernel
theorem dX2_word_1 : decode cX2_word 1 = .ok (.ifCond .lt 16, 3) := by decide +kernel
theorem dX2_word_4 : decode cX2_word 4 = .ok (.iload_n 1, 1) := by decide +kernel
theorem dX2_word_5 : decode cX2_word 5 = .ok (.aload_n 0, 1) := by decide +kernel
theorem dX2_word_6 : decode cX2_word 6 = .ok (.getfield 25, 3) := by decide +kernel
theorem dX2_word_9 : decode cX2_word 9 = .ok (.invokevirtual 75, 3) := by decide +kernel
theorem dX2_word_12 : decode cX2_word 12 = .ok (.iconst 4, 1) := by decide +kernel
theorem dX2_word_13 : decode cX2_word 13 = .ok (.isub, 1) := by decide +kernel
theorem dX2_word_14 : decode cX2_word 14 = .ok (.if_icmp .le 13, 3) := by decide +kernel
theorem dX2_word_17 : decode cX2_word 17 = .ok (.new 103, 3) := by decide +kernel
theorem dX2_word_20 : decode cX2_word 20 = .ok (.dup, 1) := by decide +kernel
theorem dX2_word_21 : decode cX2_word 21 = .ok (.ldc 105, 2) := by decide +kernel
theorem dX2_word_23 : decode cX2_word 23 = .ok (.invokespecial 107, 3) := by decide +kernel
theorem dX2_word_26 : decode cX2_word 26 = .ok (.athrow, 1) := by decide +kernel
theorem dX2_word_27 : decode cX2_word 27 = .ok (.aload_n 0, 1) := by decide +kernel
theorem dX2_word_28 : decode cX2_word 28 = .ok (.getfield 25, 3) := by decide +kernel
theorem dX2_word_31 : decode cX2_word 31 = .ok (.iload_n 1, 1) := by decide +kernel
theorem dX2_word_32 : decode cX2_word 32 = .ok (.invokevirtual 108, 3) := by decide +kernel
theorem dX2_word_35 : decode cX2_word 35 = .ok (.ireturn, 1) := by decide +kernel
set_option maxRecDepth 20000 in
theorem ggX2_beginAnew_X1_clear : GoodIn wsX2_beginAnew wsX1_clear := goodIn_r _ [11, 12, 34, 35] (by decide +kernel) (by decide +kernel)
set_option maxRecDepth 20000 in
theorem gX2_beginAnew_X1_clear : GoodIn wsX2_beginAnew (wsV RX2 111 RX1 yX1_clear wsX1_clear) := goodIn_app (goodIn_of _ (by decide +kernel)) ggX2_beginAnew_X1_clear
set_option maxRecDepth 20000 in
theorem ggX2_beginAnew_X0_restart : GoodIn wsX2_beginAnew wsX0_restart := goodIn_r _ [17, 18, 19, 20, 21, 22, 23, 24, 25, 26, 8, 9, 10, 11, 12, 36, 37, 38, 39, 40, 41, 42, 43, 44, 45, 46, 34, 35] (by decide +kernel) (by decide +kernel)
set_option maxRecDepth 20000 in
theorem gX2_beginAnew_X0_restart : GoodIn wsX2_beginAnew (wsV RX2 114 RX0 yX0_restart wsX0_restart) := goodIn_app (goodIn_of _ (by decide +kernel)) ggX2_beginAnew_X0_restart
theorem dX2_beginAnew_0 : decode cX2_beginAnew 0 = .ok (.aload_n 0, 1) := by decide +kernel
theorem dX2_beginAnew_1 : decode cX2_beginAnew 1 = .ok (.getfield 25, 3) := by decide +kernel
theorem dX2_beginAnew_4 : decode cX2_beginAnew 4 = .ok (.invokevirtual 111, 3) := by decide +kernel
theorem dX2_beginAnew_7 : decode cX2_beginAnew 7 = .ok (.aload_n 0, 1) := by decide +kernel
theorem dX2_beginAnew_8 : decode cX2_beginAnew 8 = .ok (.iconst 0, 1) := by decide +kernel
theorem dX2_beginAnew_9 : decode cX2_beginAnew 9 = .ok (.putfield 56, 3) := by decide +kernel
theorem dX2_beginAnew_12 : decode cX2_beginAnew 12 = .ok (.aload_n 0, 1) := by decide +kernel
theorem dX2_beginAnew_13 : decode cX2_beginAnew 13 = .ok (.iconst 0, 1) := by decide +kernel
theorem dX2_beginAnew_14 : decode cX2_beginAnew 14 = .ok (.putfield 63, 3) := by decide +kernel
theorem dX2_beginAnew_17 : decode cX2_beginAnew 17 = .ok (.iconst 0, 1) := by decide +kernel
theorem dX2_beginAnew_18 : decode cX2_beginAnew 18 = .ok (.istore_n 1, 1) := by decide +kernel
theorem dX2_beginAnew_19 : decode cX2_beginAnew 19 = .ok (.iload_n 1, 1) := by decide +kernel
theorem dX2_beginAnew_20 : decode cX2_beginAnew 20 = .ok (.iconst 4, 1) := by decide +kernel
theorem dX2_beginAnew_21 : decode cX2_beginAnew 21 = .ok (.if_icmp .ge 26, 3) := by decide +kernel
theorem dX2_beginAnew_24 : decode cX2_beginAnew 24 = .ok (.aload_n 0, 1) := by decide +kernel
theorem dX2_beginAnew_25 : decode cX2_beginAnew 25 = .ok (.getfield 11, 3) := by decide +kernel
theorem dX2_beginAnew_28 : decode cX2_beginAnew 28 = .ok (.iload_n 1, 1) := by decide +kernel
theorem dX2_beginAnew_29 : decode cX2_beginAnew 29 = .ok (.aaload, 1) := by decide +kernel
theorem dX2_beginAnew_30 : decode cX2_beginAnew 30 = .ok (.aload_n 0, 1) := by decide +kernel
theorem dX2_beginAnew_31 : decode cX2_beginAnew 31 = .ok (.getfield 50, 3) := by decide +kernel
theorem dX2_beginAnew_34 : decode cX2_beginAnew 34 = .ok (.aload_n 0, 1) := by decide +kernel
theorem dX2_beginAnew_35 : decode cX2_beginAnew 35 = .ok (.getfield 28, 3) := by decide +kernel
theorem dX2_beginAnew_38 : decode cX2_beginAnew 38 = .ok (.invokevirtual 114, 3) := by decide +kernel
theorem dX2_beginAnew_41 : decode cX2_beginAnew 41 = .ok (.iinc 1 1, 3) := by decide +kernel
theorem dX2_beginAnew_44 : decode cX2_beginAnew 44 = .ok (.goto (-25), 3) := by decide +kernel
theorem dX2_beginAnew_47 : decode cX2_beginAnew 47 = .ok (.return_, 1) := by decide +kernel
set_option maxRecDepth 20000 in
theorem ggX2_sendThroughChain_X0_pass : GoodIn wsX2_sendThroughChain wsX0_pass := goodIn_r _ [9, 10, 11, 12, 13, 14, 15, 16, 17, 18, 19, 20, 21, 22, 23, 24, 25, 26, 27, 28, 29, 30, 31, 32, 33, 8, 34, 35, 36, 37, 38, 39, 40, 41, 42, 43, 44, 45, 46, 47, 48, 49, 50, 51, 52, 53, 54, 55, 56, 57, 58, 59, 60, 61, 62, 63, 64, 65, 66, 67, 68, 69, 70, 71, 72, 73, 74, 75, 76, 77, 78, 79, 80, 81, 82, 83, 84, 85, 86, 87, 88, 89, 90, 91, 92, 93, 94, 95, 96, 97, 98, 99, 100, 101, 102, 103, 104, 105, 106, 107, 108, 109, 110, 111, 112, 113, 114, 115, 116, 117, 118, 119, 120, 121, 122, 123, 124, 125, 126, 127, 128, 142, 143, 144, 145, 146, 147, 148, 149, 150, 151, 152, 153, 154] (by decide +kernel) (by decide +kernel)
set_option maxRecDepth 20000 in
theorem gX2_sendThroughChain_X0_pass : GoodIn wsX2_sendThroughChain (wsV RX2 118 RX0 yX0_pass wsX0_pass) := goodIn_app (goodIn_of _ (by decide +kernel)) ggX2_sendThroughChain_X0_pass
set_option maxRecDepth 20000 in
theorem ggX2_sendThroughChain_X0_giveRest : GoodIn wsX2_sendThroughChain wsX0_giveRest := goodIn_r _ [132, 10, 14, 15, 16, 17, 18, 19, 20, 21, 22, 23, 24, 25, 26, 27, 28, 29, 30, 142, 143, 144, 145, 146, 147, 148, 149, 150, 151, 152, 153, 154] (by decide +kernel) (by decide +kernel)
set_option maxRecDepth 20000 in
theorem gX2_sendThroughChain_X0_giveRest : GoodIn wsX2_sendThroughChain (wsV RX2 122 RX0 yX0_giveRest wsX0_giveRest) := goodIn_app (goodIn_of _ (by decide +kernel)) ggX2_sendThroughChain_X0_giveRest
set_option maxRecDepth 20000 in
theorem ggX2_sendThroughChain_X1_size : GoodIn wsX2_sendThroughChain wsX1_size := goodIn_r _ [20, 21, 153, 154] (by decide +kernel) (by decide +kernel)
set_option maxRecDepth 20000 in
theorem gX2_sendThroughChain_X1_size : GoodIn wsX2_sendThroughChain (wsV RX2 75 RX1 yX1_size wsX1_size) := goodIn_app (goodIn_of _ (by decide +kernel)) ggX2_sendThroughChain_X1_size
set_option maxRecDepth 20000 in
theorem ggX2_sendThroughChain_X1_moveTo : GoodIn wsX2_sendThroughChain wsX1_moveTo := goodIn_r _ [25, 26, 21, 27, 28, 29, 30, 153, 154] (by decide +kernel) (by decide +kernel)
set_option maxRecDepth 20000 in
theorem gX2_sendThroughChain_X1_moveTo : GoodIn wsX2_sendThroughChain (wsV RX2 125 RX1 yX1_moveTo wsX1_moveTo) := goodIn_app (goodIn_of _ (by decide +kernel)) ggX2_sendThroughChain_X1_moveTo
theorem dX2_sendThroughChain_0 : decode cX2_sendThroughChain 0 = .ok (.iconst 0, 1) := by decide +kernel
theorem dX2_sendThroughChain_1 : decode cX2_sendThroughChain 1 = .ok (.istore_n 2, 1) := by decide +kernel
theorem dX2_sendThroughChain_2 : decode cX2_sendThroughChain 2 = .ok (.iload_n 2, 1) := by decide +kernel
theorem dX2_sendThroughChain_3 : decode cX2_sendThroughChain 3 = .ok (.iconst 4, 1) := by decide +kernel
theorem dX2_sendThroughChain_4 : decode cX2_sendThroughChain 4 = .ok (.if_icmp .ge 49, 3) := by decide +kernel
theorem dX2_sendThroughChain_7 : decode cX2_sendThroughChain 7 = .ok (.aload_n 0, 1) := by decide +kernel
theorem dX2_sendThroughChain_8 : decode cX2_sendThroughChain 8 = .ok (.getfield 11, 3) := by decide +kernel
theorem dX2_sendThroughChain_11 : decode cX2_sendThroughChain 11 = .ok (.aload_n 0, 1) := by decide +kernel
theorem dX2_sendThroughChain_12 : decode cX2_sendThroughChain 12 = .ok (.getfield 28, 3) := by decide +kernel
theorem dX2_sendThroughChain_15 : decode cX2_sendThroughChain 15 = .ok (.ifCond .eq 7, 3) := by decide +kernel
theorem dX2_sendThroughChain_18 : decode cX2_sendThroughChain 18 = .ok (.iload_n 2, 1) := by decide +kernel
theorem dX2_sendThroughChain_19 : decode cX2_sendThroughChain 19 = .ok (.goto 6, 3) := by decide +kernel
theorem dX2_sendThroughChain_22 : decode cX2_sendThroughChain 22 = .ok (.iconst 3, 1) := by decide +kernel
theorem dX2_sendThroughChain_23 : decode cX2_sendThroughChain 23 = .ok (.iload_n 2, 1) := by decide +kernel
theorem dX2_sendThroughChain_24 : decode cX2_sendThroughChain 24 = .ok (.isub, 1) := by decide +kernel
theorem dX2_sendThroughChain_25 : decode cX2_sendThroughChain 25 = .ok (.aaload, 1) := by decide +kernel
theorem dX2_sendThroughChain_26 : decode cX2_sendThroughChain 26 = .ok (.astore_n 3, 1) := by decide +kernel
theorem dX2_sendThroughChain_27 : decode cX2_sendThroughChain 27 = .ok (.aload_n 3, 1) := by decide +kernel
theorem dX2_sendThroughChain_28 : decode cX2_sendThroughChain 28 = .ok (.aload_n 0, 1) := by decide +kernel
theorem dX2_sendThroughChain_29 : decode cX2_sendThroughChain 29 = .ok (.getfield 21, 3) := by decide +kernel
theorem dX2_sendThroughChain_32 : decode cX2_sendThroughChain 32 = .ok (.invokevirtual 118, 3) := by decide +kernel
theorem dX2_sendThroughChain_35 : decode cX2_sendThroughChain 35 = .ok (.iload_n 1, 1) := by decide +kernel
theorem dX2_sendThroughChain_36 : decode cX2_sendThroughChain 36 = .ok (.ifCond .eq 11, 3) := by decide +kernel
theorem dX2_sendThroughChain_39 : decode cX2_sendThroughChain 39 = .ok (.aload_n 3, 1) := by decide +kernel
theorem dX2_sendThroughChain_40 : decode cX2_sendThroughChain 40 = .ok (.aload_n 0, 1) := by decide +kernel
theorem dX2_sendThroughChain_41 : decode cX2_sendThroughChain 41 = .ok (.getfield 21, 3) := by decide +kernel
theorem dX2_sendThroughChain_44 : decode cX2_sendThroughChain 44 = .ok (.invokevirtual 122, 3) := by decide +kernel
theorem dX2_sendThroughChain_47 : decode cX2_sendThroughChain 47 = .ok (.iinc 2 1, 3) := by decide +kernel
theorem dX2_sendThroughChain_50 : decode cX2_sendThroughChain 50 = .ok (.goto (-48), 3) := by decide +kernel
theorem dX2_sendThroughChain_53 : decode cX2_sendThroughChain 53 = .ok (.aload_n 0, 1) := by decide +kernel
theorem dX2_sendThroughChain_54 : decode cX2_sendThroughChain 54 = .ok (.getfield 21, 3) := by decide +kernel
theorem dX2_sendThroughChain_57 : decode cX2_sendThroughChain 57 = .ok (.aload_n 0, 1) := by decide +kernel
theorem dX2_sendThroughChain_58 : decode cX2_sendThroughChain 58 = .ok (.getfield 25, 3) := by decide +kernel
theorem dX2_sendThroughChain_61 : decode cX2_sendThroughChain 61 = .ok (.aload_n 0, 1) := by decide +kernel
theorem dX2_sendThroughChain_62 : decode cX2_sendThroughChain 62 = .ok (.getfield 21, 3) := by decide +kernel
theorem dX2_sendThroughChain_65 : decode cX2_sendThroughChain 65 = .ok (.invokevirtual 75, 3) := by decide +kernel
theorem dX2_sendThroughChain_68 : decode cX2_sendThroughChain 68 = .ok (.invokevirtual 125, 3) := by decide +kernel
theorem dX2_sendThroughChain_71 : decode cX2_sendThroughChain 71 = .ok (.return_, 1) := by decide +kernel
set_option maxRecDepth 20000 in
theorem ggX3_init_X3_anew : GoodIn wsX3_init wsX3_anew := goodIn_r _ [22, 23, 24, 25, 9, 11, 12, 13, 14, 26, 10, 27, 28, 29, 30, 31, 32, 33, 34, 35, 36, 37, 38, 39, 40, 41, 42, 43, 44, 45, 46] (by decide +kernel) (by decide +kernel)
set_option maxRecDepth 20000 in
theorem gX3_init_X3_anew : GoodIn wsX3_init (wsV RX3 50 RX3 yX3_anew wsX3_anew) := goodIn_app (goodIn_of _ (by decide +kernel)) ggX3_init_X3_anew
theorem dX3_init_0 : decode cX3_init 0 = .ok (.aload_n 0, 1) := by decide +kernel
theorem dX3_init_1 : decode cX3_init 1 = .ok (.invokespecial 1, 3) := by decide +kernel
theorem dX3_init_4 : decode cX3_init 4 = .ok (.aload_n 0, 1) := by decide +kernel
theorem dX3_init_5 : decode cX3_init 5 = .ok (.iconst 4, 1) := by decide +kernel
theorem dX3_init_6 : decode cX3_init 6 = .ok (.newarray .int, 2) := by decide +kernel
theorem dX3_init_8 : decode cX3_init 8 = .ok (.putfield 7, 3) := by decide +kernel
theorem dX3_init_11 : decode cX3_init 11 = .ok (.aload_n 0, 1) := by decide +kernel
theorem dX3_init_12 : decode cX3_init 12 = .ok (.iconst 4, 1) := by decide +kernel
theorem dX3_init_13 : decode cX3_init 13 = .ok (.newarray .int, 2) := by decide +kernel
theorem dX3_init_15 : decode cX3_init 15 = .ok (.putfield 13, 3) := by decide +kernel
theorem dX3_init_18 : decode cX3_init 18 = .ok (.aload_n 0, 1) := by decide +kernel
theorem dX3_init_19 : decode cX3_init 19 = .ok (.iconst 1, 1) := by decide +kernel
theorem dX3_init_20 : decode cX3_init 20 = .ok (.putfield 16, 3) := by decide +kernel
theorem dX3_init_23 : decode cX3_init 23 = .ok (.aload_n 0, 1) := by decide +kernel
theorem dX3_init_24 : decode cX3_init 24 = .ok (.bipush 64, 2) := by decide +kernel
theorem dX3_init_26 : decode cX3_init 26 = .ok (.newarray .int, 2) := by decide +kernel
theorem dX3_init_28 : decode cX3_init 28 = .ok (.putfield 20, 3) := by decide +kernel
theorem dX3_init_31 : decode cX3_init 31 = .ok (.aload_n 0, 1) := by decide +kernel
theorem dX3_init_32 : decode cX3_init 32 = .ok (.iconst 4, 1) := by decide +kernel
theorem dX3_init_33 : decode cX3_init 33 = .ok (.newarray .int, 2) := by decide +kernel
theorem dX3_init_35 : decode cX3_init 35 = .ok (.putfield 23, 3) := by decide +kernel
theorem dX3_init_38 : decode cX3_init 38 = .ok (.aload_n 0, 1) := by decide +kernel
theorem dX3_init_39 : decode cX3_init 39 = .ok (.sipush 128, 3) := by decide +kernel
theorem dX3_init_42 : decode cX3_init 42 = .ok (.newarray .int, 2) := by decide +kernel
theorem dX3_init_44 : decode cX3_init 44 = .ok (.putfield 26, 3) := by decide +kernel
theorem dX3_init_47 : decode cX3_init 47 = .ok (.aload_n 0, 1) := by decide +kernel
theorem dX3_init_48 : decode cX3_init 48 = .ok (.iconst 4, 1) := by decide +kernel
theorem dX3_init_49 : decode cX3_init 49 = .ok (.newarray .int, 2) := by decide +kernel
theorem dX3_init_51 : decode cX3_init 51 = .ok (.putfield 29, 3) := by decide +kernel
theorem dX3_init_54 : decode cX3_init 54 = .ok (.aload_n 0, 1) := by decide +kernel
theorem dX3_init_55 : decode cX3_init 55 = .ok (.iconst 4, 1) := by decide +kernel
theorem dX3_init_56 : decode cX3_init 56 = .ok (.newarray .int, 2) := by decide +kernel
theorem dX3_init_58 : decode cX3_init 58 = .ok (.putfield 32, 3) := by decide +kernel
theorem dX3_init_61 : decode cX3_init 61 = .ok (.aload_n 0, 1) := by decide +kernel
theorem dX3_init_62 : decode cX3_init 62 = .ok (.iconst 4, 1) := by decide +kernel
theorem dX3_init_63 : decode cX3_init 63 = .ok (.newarray .int, 2) := by decide +kernel
theorem dX3_init_65 : decode cX3_init 65 = .ok (.putfield 35, 3) := by decide +kernel
theorem dX3_init_68 : decode cX3_init 68 = .ok (.aload_n 0, 1) := by decide +kernel
theorem dX3_init_69 : decode cX3_init 69 = .ok (.iconst 4, 1) := by decide +kernel
theorem dX3_init_70 : decode cX3_init 70 = .ok (.newarray .int, 2) := by decide +kernel
theorem dX3_init_72 : decode cX3_init 72 = .ok (.putfield 38, 3) := by decide +kernel
theorem dX3_init_75 : decode cX3_init 75 = .ok (.aload_n 0, 1) := by decide +kernel
theorem dX3_init_76 : decode cX3_init 76 = .ok (.bipush 64, 2) := by decide +kernel
theorem dX3_init_78 : decode cX3_init 78 = .ok (.newarray .int, 2) := by decide +kernel
theorem dX3_init_80 : decode cX3_init 80 = .ok (.putfield 41, 3) := by decide +kernel
theorem dX3_init_83 : decode cX3_init 83 = .ok (.aload_n 0, 1) := by decide +kernel
theorem dX3_init_84 : decode cX3_init 84 = .ok (.bipush 64, 2) := by decide +kernel
theorem dX3_init_86 : decode cX3_init 86 = .ok (.newarray .int, 2) := by decide +kernel
theorem dX3_init_88 : decode cX3_init 88 = .ok (.putfield 44, 3) := by decide +kernel
theorem dX3_init_91 : decode cX3_init 91 = .ok (.aload_n 0, 1) := by decide +kernel
theorem dX3_init_92 : decode cX3_init 92 = .ok (.sipush 2000, 3) := by decide +kernel
theorem dX3_init_95 : decode cX3_init 95 = .ok (.newarray .int, 2) := by decide +kernel
theorem dX3_init_97 : decode cX3_init 97 = .ok (.putfield 47, 3) := by decide +kernel
theorem dX3_init_100 : decode cX3_init 100 = .ok (.iconst 0, 1) := by decide +kernel
theorem dX3_init_101 : decode cX3_init 101 = .ok (.istore_n 1, 1) := by decide +kernel
theorem dX3_init_102 : decode cX3_init 102 = .ok (.iload_n 1, 1) := by decide +kernel
theorem dX3_init_103 : decode cX3_init 103 = .ok (.iconst 4, 1) := by decide +kernel
theorem dX3_init_104 : decode cX3_init 104 = .ok (.if_icmp .ge 16, 3) := by decide +kernel
theorem dX3_init_107 : decode cX3_init 107 = .ok (.aload_n 0, 1) := by decide +kernel
theorem dX3_init_108 : decode cX3_init 108 = .ok (.getfield 13, 3) := by decide +kernel
theorem dX3_init_111 : decode cX3_init 111 = .ok (.iload_n 1, 1) := by decide +kernel
theorem dX3_init_112 : decode cX3_init 112 = .ok (.iconst 1, 1) := by decide +kernel
theorem dX3_init_113 : decode cX3_init 113 = .ok (.iastore, 1) := by decide +kernel
theorem dX3_init_114 : decode cX3_init 114 = .ok (.iinc 1 1, 3) := by decide +kernel
theorem dX3_init_117 : decode cX3_init 117 = .ok (.goto (-15), 3) := by decide +kernel
theorem dX3_init_120 : decode cX3_init 120 = .ok (.aload_n 0, 1) := by decide +kernel
theorem dX3_init_121 : decode cX3_init 121 = .ok (.invokevirtual 50, 3) := by decide +kernel
theorem dX3_init_124 : decode cX3_init 124 = .ok (.return_, 1) := by decide +kernel
theorem dX3_thrown_0 : decode cX3_thrown 0 = .ok (.aload_n 0, 1) := by decide +kernel
theorem dX3_thrown_1 : decode cX3_thrown 1 = .ok (.getfield 53, 3) := by decide +kernel
theorem dX3_thrown_4 : decode cX3_thrown 4 = .ok (.ireturn, 1) := by decide +kernel
theorem dX3_refused_0 : decode cX3_refused 0 = .ok (.aload_n 0, 1) := by decide +kernel
theorem dX3_refused_1 : decode cX3_refused 1 = .ok (.iload_n 1, 1) := by decide +kernel
theorem dX3_refused_2 : decode cX3_refused 2 = .ok (.putfield 53, 3) := by decide +kernel
theorem dX3_refused_5 : decode cX3_refused 5 = .ok (.iload_n 1, 1) := by decide +kernel
theorem dX3_refused_6 : decode cX3_refused 6 = .ok (.ifCond .le 7, 3) := by decide +kernel
theorem dX3_refused_9 : decode cX3_refused 9 = .ok (.iconst 1, 1) := by decide +kernel
theorem dX3_refused_10 : decode cX3_refused 10 = .ok (.goto 4, 3) := by decide +kernel
theorem dX3_refused_13 : decode cX3_refused 13 = .ok (.iconst 0, 1) := by decide +kernel
theorem dX3_refused_14 : decode cX3_refused 14 = .ok (.ireturn, 1) := by decide +kernel
theorem dX3_isIn_0 : decode cX3_isIn 0 = .ok (.iload_n 0, 1) := by decide +kernel
theorem dX3_isIn_1 : decode cX3_isIn 1 = .ok (.iload_n 1, 1) := by decide +kernel
theorem dX3_isIn_2 : decode cX3_isIn 2 = .ok (.if_icmp .lt 12, 3) := by decide +kernel
theorem dX3_isIn_5 : decode cX3_isIn 5 = .ok (.iload_n 0, 1) := by decide +kernel
theorem dX3_isIn_6 : decode cX3_isIn 6 = .ok (.iload_n 2, 1) := by decide +kernel
theorem dX3_isIn_7 : decode cX3_isIn 7 = .ok (.if_icmp .gt 7, 3) := by decide +kernel
theorem dX3_isIn_10 : decode cX3_isIn 10 = .ok (.iconst 1, 1) := by decide +kernel
theorem dX3_isIn_11 : decode cX3_isIn 11 = .ok (.goto 4, 3) := by decide +kernel
theorem dX3_isIn_14 : decode cX3_isIn 14 = .ok (.iconst 0, 1) := by decide +kernel
theorem dX3_isIn_15 : decode cX3_isIn 15 = .ok (.ireturn, 1) := by decide +kernel
theorem dX3_anew_0 : decode cX3_anew 0 = .ok (.aload_n 0, 1) := by decide +kernel
theorem dX3_anew_1 : decode cX3_anew 1 = .ok (.iconst 0, 1) := by decide +kernel
theorem dX3_anew_2 : decode cX3_anew 2 = .ok (.putfield 57, 3) := by decide +kernel
theorem dX3_anew_5 : decode cX3_anew 5 = .ok (.aload_n 0, 1) := by decide +kernel
theorem dX3_anew_6 : decode cX3_anew 6 = .ok (.iconst 0, 1) := by decide +kernel
theorem dX3_anew_7 : decode cX3_anew 7 = .ok (.putfield 60, 3) := by decide +kernel
theorem dX3_anew_10 : decode cX3_anew 10 = .ok (.aload_n 0, 1) := by decide +kernel
theorem dX3_anew_11 : decode cX3_anew 11 = .ok (.iconst 0, 1) := by decide +kernel
theorem dX3_anew_12 : decode cX3_anew 12 = .ok (.putfield 63, 3) := by decide +kernel
theorem dX3_anew_15 : decode cX3_anew 15 = .ok (.iconst 0, 1) := by decide +kernel
theorem dX3_anew_16 : decode cX3_anew 16 = .ok (.istore_n 1, 1) := by decide +kernel
theorem dX3_anew_17 : decode cX3_anew 17 = .ok (.iload_n 1, 1) := by decide +kernel
theorem dX3_anew_18 : decode cX3_anew 18 = .ok (.iconst 4, 1) := by decide +kernel
theorem dX3_anew_19 : decode cX3_anew 19 = .ok (.if_icmp .ge 49, 3) := by decide +kernel
theorem dX3_anew_22 : decode cX3_anew 22 = .ok (.aload_n 0, 1) := by decide +kernel
theorem dX3_anew_23 : decode cX3_anew 23 = .ok (.getfield 23, 3) := by decide +kernel
theorem dX3_anew_26 : decode cX3_anew 26 = .ok (.iload_n 1, 1) := by decide +kernel
theorem dX3_anew_27 : decode cX3_anew 27 = .ok (.iconst 0, 1) := by decide +kernel
theorem dX3_anew_28 : decode cX3_anew 28 = .ok (.iastore, 1) := by decide +kernel
theorem dX3_anew_29 : decode cX3_anew 29 = .ok (.aload_n 0, 1) := by decide +kernel
theorem dX3_anew_30 : decode cX3_anew 30 = .ok (.getfield 29, 3) := by decide +kernel
theorem dX3_anew_33 : decode cX3_anew 33 = .ok (.iload_n 1, 1) := by decide +kernel
theorem dX3_anew_34 : decode cX3_anew 34 = .ok (.iconst 0, 1) := by decide +kernel
theorem dX3_anew_35 : decode cX3_anew 35 = .ok (.iastore, 1) := by decide +kernel
theorem dX3_anew_36 : decode cX3_anew 36 = .ok (.aload_n 0, 1) := by decide +kernel
theorem dX3_anew_37 : decode cX3_anew 37 = .ok (.getfield 32, 3) := by decide +kernel
theorem dX3_anew_40 : decode cX3_anew 40 = .ok (.iload_n 1, 1) := by decide +kernel
theorem dX3_anew_41 : decode cX3_anew 41 = .ok (.iconst 0, 1) := by decide +kernel
theorem dX3_anew_42 : decode cX3_anew 42 = .ok (.iastore, 1) := by decide +kernel
theorem dX3_anew_43 : decode cX3_anew 43 = .ok (.aload_n 0, 1) := by decide +kernel
theorem dX3_anew_44 : decode cX3_anew 44 = .ok (.getfield 35, 3) := by decide +kernel
theorem dX3_anew_47 : decode cX3_anew 47 = .ok (.iload_n 1, 1) := by decide +kernel
theorem dX3_anew_48 : decode cX3_anew 48 = .ok (.iconst 0, 1) := by decide +kernel
theorem dX3_anew_49 : decode cX3_anew 49 = .ok (.iastore, 1) := by decide +kernel
theorem dX3_anew_50 : decode cX3_anew 50 = .ok (.aload_n 0, 1) := by decide +kernel
theorem dX3_anew_51 : decode cX3_anew 51 = .ok (.getfield 38, 3) := by decide +kernel
theorem dX3_anew_54 : decode cX3_anew 54 = .ok (.iload_n 1, 1) := by decide +kernel
theorem dX3_anew_55 : decode cX3_anew 55 = .ok (.aload_n 0, 1) := by decide +kernel
theorem dX3_anew_56 : decode cX3_anew 56 = .ok (.getfield 66, 3) := by decide +kernel
theorem dX3_anew_59 : decode cX3_anew 59 = .ok (.iconst 5, 1) := by decide +kernel
theorem dX3_anew_60 : decode cX3_anew 60 = .ok (.isub, 1) := by decide +kernel
theorem dX3_anew_61 : decode cX3_anew 61 = .ok (.iastore, 1) := by decide +kernel
theorem dX3_anew_62 : decode cX3_anew 62 = .ok (.iinc 1 1, 3) := by decide +kernel
theorem dX3_anew_65 : decode cX3_anew 65 = .ok (.goto (-48), 3) := by decide +kernel
theorem dX3_anew_68 : decode cX3_anew 68 = .ok (.iconst 0, 1) := by decide +kernel
theorem dX3_anew_69 : decode cX3_anew 69 = .ok (.istore_n 1, 1) := by decide +kernel
theorem dX3_anew_70 : decode cX3_anew 70 = .ok (.iload_n 1, 1) := by decide +kernel
theorem dX3_anew_71 : decode cX3_anew 71 = .ok (.sipush 128, 3) := by decide +kernel
theorem dX3_anew_74 : decode cX3_anew 74 = .ok (.if_icmp .ge 16, 3) := by decide +kernel
theorem dX3_anew_77 : decode cX3_anew 77 = .ok (.aload_n 0, 1) := by decide +kernel
theorem dX3_anew_78 : decode cX3_anew 78 = .ok (.getfield 26, 3) := by decide +kernel
theorem dX3_anew_81 : decode cX3_anew 81 = .ok (.iload_n 1, 1) := by decide +kernel
theorem dX3_anew_82 : decode cX3_anew 82 = .ok (.iconst 0, 1) := by decide +kernel
theorem dX3_anew_83 : decode cX3_anew 83 = .ok (.iastore, 1) := by decide +kernel
theorem dX3_anew_84 : decode cX3_anew 84 = .ok (.iinc 1 1, 3) := by decide +kernel
theorem dX3_anew_87 : decode cX3_anew 87 = .ok (.goto (-17), 3) := by decide +kernel
theorem dX3_anew_90 : decode cX3_anew 90 = .ok (.return_, 1) := by decide +kernel
set_option maxRecDepth 20000 in
theorem ggX3_filter_X3_isIn : GoodIn wsX3_filter wsX3_isIn := goodIn_r _ [6] (by decide +kernel) (by decide +kernel)
set_option maxRecDepth 20000 in
theorem gX3_filter_X3_isIn : GoodIn wsX3_filter (va_wsS RX3 69 yX3_isIn wsX3_isIn) := goodIn_app (goodIn_of _ (by decide +kernel)) ggX3_filter_X3_isIn
set_option maxRecDepth 20000 in
theorem ggX3_filter_X3_refused : GoodIn wsX3_filter wsX3_refused := goodIn_r _ [10, 11, 26, 27, 28, 29, 30, 31, 32, 33, 34, 35, 36, 37, 38, 39, 40, 41, 42, 43, 44, 45] (by decide +kernel) (by decide +kernel)
set_option maxRecDepth 20000 in
theorem gX3_filter_X3_refused : GoodIn wsX3_filter (wsV RX3 73 RX3 yX3_refused wsX3_refused) := goodIn_app (goodIn_of _ (by decide +kernel)) ggX3_filter_X3_refused
set_option maxRecDepth 20000 in
theorem ggX3_filter_X3_anew : GoodIn wsX3_filter wsX3_anew := goodIn_r _ [15, 16, 17, 18, 19, 20, 21, 22, 23, 24, 25, 26, 27, 28, 29, 30, 31, 32, 33, 34, 35, 36, 37, 38, 39, 40, 41, 42, 43, 44, 45] (by decide +kernel) (by decide +kernel)
set_option maxRecDepth 20000 in
theorem gX3_filter_X3_anew : GoodIn wsX3_filter (wsV RX3 50 RX3 yX3_anew wsX3_anew) := goodIn_app (goodIn_of _ (by decide +kernel)) ggX3_filter_X3_anew
theorem dX3_filter_0 : decode cX3_filter 0 = .ok (.aload_n 0, 1) := by decide +kernel
theorem dX3_filter_1 : decode cX3_filter 1 = .ok (.iload_n 1, 1) := by decide +kernel
theorem dX3_filter_2 : decode cX3_filter 2 = .ok (.iconst 0, 1) := by decide +kernel
theorem dX3_filter_3 : decode cX3_filter 3 = .ok (.iconst 3, 1) := by decide +kernel
theorem dX3_filter_4 : decode cX3_filter 4 = .ok (.invokestatic 69, 3) := by decide +kernel
theorem dX3_filter_7 : decode cX3_filter 7 = .ok (.ifCond .eq 27, 3) := by decide +kernel
theorem dX3_filter_10 : decode cX3_filter 10 = .ok (.iload_n 2, 1) := by decide +kernel
theorem dX3_filter_11 : decode cX3_filter 11 = .ok (.iconst 0, 1) := by decide +kernel
theorem dX3_filter_12 : decode cX3_filter 12 = .ok (.bipush 7, 2) := by decide +kernel
theorem dX3_filter_14 : decode cX3_filter 14 = .ok (.invokestatic 69, 3) := by decide +kernel
theorem dX3_filter_17 : decode cX3_filter 17 = .ok (.ifCond .eq 17, 3) := by decide +kernel
theorem dX3_filter_20 : decode cX3_filter 20 = .ok (.iload_n 3, 1) := by decide +kernel
theorem dX3_filter_21 : decode cX3_filter 21 = .ok (.iconst 1, 1) := by decide +kernel
theorem dX3_filter_22 : decode cX3_filter 22 = .ok (.bipush 32, 2) := by decide +kernel
theorem dX3_filter_24 : decode cX3_filter 24 = .ok (.invokestatic 69, 3) := by decide +kernel
theorem dX3_filter_27 : decode cX3_filter 27 = .ok (.ifCond .eq 7, 3) := by decide +kernel
theorem dX3_filter_30 : decode cX3_filter 30 = .ok (.iconst 0, 1) := by decide +kernel
theorem dX3_filter_31 : decode cX3_filter 31 = .ok (.goto 4, 3) := by decide +kernel
theorem dX3_filter_34 : decode cX3_filter 34 = .ok (.iconst 1, 1) := by decide +kernel
theorem dX3_filter_35 : decode cX3_filter 35 = .ok (.invokevirtual 73, 3) := by decide +kernel
theorem dX3_filter_38 : decode cX3_filter 38 = .ok (.ifCond .eq 4, 3) := by decide +kernel
theorem dX3_filter_41 : decode cX3_filter 41 = .ok (.return_, 1) := by decide +kernel
theorem dX3_filter_42 : decode cX3_filter 42 = .ok (.aload_n 0, 1) := by decide +kernel
theorem dX3_filter_43 : decode cX3_filter 43 = .ok (.getfield 7, 3) := by decide +kernel
theorem dX3_filter_46 : decode cX3_filter 46 = .ok (.iload_n 1, 1) := by decide +kernel
theorem dX3_filter_47 : decode cX3_filter 47 = .ok (.iload_n 2, 1) := by decide +kernel
theorem dX3_filter_48 : decode cX3_filter 48 = .ok (.iastore, 1) := by decide +kernel
theorem dX3_filter_49 : decode cX3_filter 49 = .ok (.aload_n 0, 1) := by decide +kernel
theorem dX3_filter_50 : decode cX3_filter 50 = .ok (.getfield 13, 3) := by decide +kernel
theorem dX3_filter_53 : decode cX3_filter 53 = .ok (.iload_n 1, 1) := by decide +kernel
theorem dX3_filter_54 : decode cX3_filter 54 = .ok (.iload_n 3, 1) := by decide +kernel
theorem dX3_filter_55 : decode cX3_filter 55 = .ok (.iastore, 1) := by decide +kernel
theorem dX3_filter_56 : decode cX3_filter 56 = .ok (.aload_n 0, 1) := by decide +kernel
theorem dX3_filter_57 : decode cX3_filter 57 = .ok (.invokevirtual 50, 3) := by decide +kernel
theorem dX3_filter_60 : decode cX3_filter 60 = .ok (.return_, 1) := by decide +kernel
set_option maxRecDepth 20000 in
theorem ggX3_begin_X3_anew : GoodIn wsX3_begin wsX3_anew := goodIn_r _ [8, 9, 10, 11, 12, 13, 14, 15, 16, 2, 17, 18, 19, 20, 21, 22, 23, 24, 25, 26, 27, 28, 29, 30, 31, 32, 33, 34, 35, 36, 37] (by decide +kernel) (by decide +kernel)
set_option maxRecDepth 20000 in
theorem gX3_begin_X3_anew : GoodIn wsX3_begin (wsV RX3 50 RX3 yX3_anew wsX3_anew) := goodIn_app (goodIn_of _ (by decide +kernel)) ggX3_begin_X3_anew
theorem dX3_begin_0 : decode cX3_begin 0 = .ok (.aload_n 0, 1) := by decide +kernel
theorem dX3_begin_1 : decode cX3_begin 1 = .ok (.iconst 0, 1) := by decide +kernel
theorem dX3_begin_2 : decode cX3_begin 2 = .ok (.putfield 53, 3) := by decide +kernel
theorem dX3_begin_5 : decode cX3_begin 5 = .ok (.aload_n 0, 1) := by decide +kernel
theorem dX3_begin_6 : decode cX3_begin 6 = .ok (.iload_n 1, 1) := by decide +kernel
theorem dX3_begin_7 : decode cX3_begin 7 = .ok (.putfield 66, 3) := by decide +kernel
theorem dX3_begin_10 : decode cX3_begin 10 = .ok (.aload_n 0, 1) := by decide +kernel
theorem dX3_begin_11 : decode cX3_begin 11 = .ok (.iload_n 2, 1) := by decide +kernel
theorem dX3_begin_12 : decode cX3_begin 12 = .ok (.putfield 16, 3) := by decide +kernel
theorem dX3_begin_15 : decode cX3_begin 15 = .ok (.aload_n 0, 1) := by decide +kernel
theorem dX3_begin_16 : decode cX3_begin 16 = .ok (.invokevirtual 50, 3) := by decide +kernel
theorem dX3_begin_19 : decode cX3_begin 19 = .ok (.return_, 1) := by decide +kernel
theorem dX3_at_0 : decode cX3_at 0 = .ok (.aload_n 0, 1) := by decide +kernel
theorem dX3_at_1 : decode cX3_at 1 = .ok (.getfield 20, 3) := by decide +kernel
theorem dX3_at_4 : decode cX3_at 4 = .ok (.bipush 16, 2) := by decide +kernel
theorem dX3_at_6 : decode cX3_at 6 = .ok (.iload_n 1, 1) := by decide +kernel
theorem dX3_at_7 : decode cX3_at 7 = .ok (.imul, 1) := by decide +kernel
theorem dX3_at_8 : decode cX3_at 8 = .ok (.iload_n 2, 1) := by decide +kernel
theorem dX3_at_9 : decode cX3_at 9 = .ok (.iadd, 1) := by decide +kernel
theorem dX3_at_10 : decode cX3_at 10 = .ok (.iaload, 1) := by decide +kernel
theorem dX3_at_11 : decode cX3_at 11 = .ok (.ireturn, 1) := by decide +kernel
theorem dX3_change_0 : decode cX3_change 0 = .ok (.aload_n 0, 1) := by decide +kernel
theorem dX3_change_1 : decode cX3_change 1 = .ok (.getfield 20, 3) := by decide +kernel
theorem dX3_change_4 : decode cX3_change 4 = .ok (.bipush 16, 2) := by decide +kernel
theorem dX3_change_6 : decode cX3_change 6 = .ok (.iload_n 1, 1) := by decide +kernel
theorem dX3_change_7 : decode cX3_change 7 = .ok (.imul, 1) := by decide +kernel
theorem dX3_change_8 : decode cX3_change 8 = .ok (.iload_n 2, 1) := by decide +kernel
theorem dX3_change_9 : decode cX3_change 9 = .ok (.iadd, 1) := by decide +kernel
theorem dX3_change_10 : decode cX3_change 10 = .ok (.iload_n 3, 1) := by decide +kernel
theorem dX3_change_11 : decode cX3_change 11 = .ok (.sipush 255, 3) := by decide +kernel
theorem dX3_change_14 : decode cX3_change 14 = .ok (.iand, 1) := by decide +kernel
theorem dX3_change_15 : decode cX3_change 15 = .ok (.iastore, 1) := by decide +kernel
theorem dX3_change_16 : decode cX3_change 16 = .ok (.return_, 1) := by decide +kernel
set_option maxRecDepth 20000 in
theorem ggX3_high_X3_at : GoodIn wsX3_high wsX3_at := goodIn_r _ [5, 6, 7, 8, 9, 10, 11, 12, 13, 14, 15, 16, 17, 18, 19, 20, 21, 22, 23, 24, 25, 26] (by decide +kernel) (by decide +kernel)
set_option maxRecDepth 20000 in
theorem gX3_high_X3_at : GoodIn wsX3_high (wsV RX3 77 RX3 yX3_at wsX3_at) := goodIn_app (goodIn_of _ (by decide +kernel)) ggX3_high_X3_at
theorem dX3_high_0 : decode cX3_high 0 = .ok (.aload_n 0, 1) := by decide +kernel
theorem dX3_high_1 : decode cX3_high 1 = .ok (.iload_n 1, 1) := by decide +kernel
theorem dX3_high_2 : decode cX3_high 2 = .ok (.iload_n 2, 1) := by decide +kernel
theorem dX3_high_3 : decode cX3_high 3 = .ok (.invokevirtual 77, 3) := by decide +kernel
theorem dX3_high_6 : decode cX3_high 6 = .ok (.bipush 24, 2) := by decide +kernel
theorem dX3_high_8 : decode cX3_high 8 = .ok (.ishl, 1) := by decide +kernel
theorem dX3_high_9 : decode cX3_high 9 = .ok (.aload_n 0, 1) := by decide +kernel
theorem dX3_high_10 : decode cX3_high 10 = .ok (.iload_n 1, 1) := by decide +kernel
theorem dX3_high_11 : decode cX3_high 11 = .ok (.iload_n 2, 1) := by decide +kernel
theorem dX3_high_12 : decode cX3_high 12 = .ok (.iconst 1, 1) := by decide +kernel
theorem dX3_high_13 : decode cX3_high 13 = .ok (.iadd, 1) := by decide +kernel
theorem dX3_high_14 : decode cX3_high 14 = .ok (.invokevirtual 77, 3) := by decide +kernel
theorem dX3_high_17 : decode cX3_high 17 = .ok (.bipush 16, 2) := by decide +kernel
theorem dX3_high_19 : decode cX3_high 19 = .ok (.ishl, 1) := by decide +kernel
theorem dX3_high_20 : decode cX3_high 20 = .ok (.ior, 1) := by decide +kernel
theorem dX3_high_21 : decode cX3_high 21 = .ok (.aload_n 0, 1) := by decide +kernel
theorem dX3_high_22 : decode cX3_high 22 = .ok (.iload_n 1, 1) := by decide +kernel
theorem dX3_high_23 : decode cX3_high 23 = .ok (.iload_n 2, 1) := by decide +kernel
theorem dX3_high_24 : decode cX3_high 24 = .ok (.iconst 2, 1) := by decide +kernel
theorem dX3_high_25 : decode cX3_high 25 = .ok (.iadd, 1) := by decide +kernel
theorem dX3_high_26 : decode cX3_high 26 = .ok (.invokevirtual 77, 3) := by decide +kernel
theorem dX3_high_29 : decode cX3_high 29 = .ok (.bipush 8, 2) := by decide +kernel
theorem dX3_high_31 : decode cX3_high 31 = .ok (.ishl, 1) := by decide +kernel
theorem dX3_high_32 : decode cX3_high 32 = .ok (.ior, 1) := by decide +kernel
theorem dX3_high_33 : decode cX3_high 33 = .ok (.aload_n 0, 1) := by decide +kernel
theorem dX3_high_34 : decode cX3_high 34 = .ok (.iload_n 1, 1) := by decide +kernel
theorem dX3_high_35 : decode cX3_high 35 = .ok (.iload_n 2, 1) := by decide +kernel
theorem dX3_high_36 : decode cX3_high 36 = .ok (.iconst 3, 1) := by decide +kernel
theorem dX3_high_37 : decode cX3_high 37 = .ok (.iadd, 1) := by decide +kernel
theorem dX3_high_38 : decode cX3_high 38 = .ok (.invokevirtual 77, 3) := by decide +kernel
theorem dX3_high_41 : decode cX3_high 41 = .ok (.ior, 1) := by decide +kernel
theorem dX3_high_42 : decode cX3_high 42 = .ok (.ireturn, 1) := by decide +kernel
set_option maxRecDepth 20000 in
theorem ggX3_low_X3_at : GoodIn wsX3_low wsX3_at := goodIn_r _ [5, 6, 7, 8, 9, 10, 11, 12, 13, 14, 15, 16, 17, 18, 19, 20, 21, 22, 23, 24, 25, 26] (by decide +kernel) (by decide +kernel)
set_option maxRecDepth 20000 in
theorem gX3_low_X3_at : GoodIn wsX3_low (wsV RX3 77 RX3 yX3_at wsX3_at) := goodIn_app (goodIn_of _ (by decide +kernel)) ggX3_low_X3_at
theorem dX3_low_0 : decode cX3_low 0 = .ok (.aload_n 0, 1) := by decide +kernel
theorem dX3_low_1 : decode cX3_low 1 = .ok (.iload_n 1, 1) := by decide +kernel
theorem dX3_low_2 : decode cX3_low 2 = .ok (.iload_n 2, 1) := by decide +kernel
theorem dX3_low_3 : decode cX3_low 3 = .ok (.iconst 3, 1) := by decide +kernel
theorem dX3_low_4 : decode cX3_low 4 = .ok (.iadd, 1) := by decide +kernel
theorem dX3_low_5 : decode cX3_low 5 = .ok (.invokevirtual 77, 3) := by decide +kernel
theorem dX3_low_8 : decode cX3_low 8 = .ok (.bipush 24, 2) := by decide +kernel
theorem dX3_low_10 : decode cX3_low 10 = .ok (.ishl, 1) := by decide +kernel
theorem dX3_low_11 : decode cX3_low 11 = .ok (.aload_n 0, 1) := by decide +kernel
theorem dX3_low_12 : decode cX3_low 12 = .ok (.iload_n 1, 1) := by decide +kernel
theorem dX3_low_13 : decode cX3_low 13 = .ok (.iload_n 2, 1) := by decide +kernel
theorem dX3_low_14 : decode cX3_low 14 = .ok (.iconst 2, 1) := by decide +kernel
theorem dX3_low_15 : decode cX3_low 15 = .ok (.iadd, 1) := by decide +kernel
theorem dX3_low_16 : decode cX3_low 16 = .ok (.invokevirtual 77, 3) := by decide +kernel
theorem dX3_low_19 : decode cX3_low 19 = .ok (.bipush 16, 2) := by decide +kernel
theorem dX3_low_21 : decode cX3_low 21 = .ok (.ishl, 1) := by decide +kernel
theorem dX3_low_22 : decode cX3_low 22 = .ok (.ior, 1) := by decide +kernel
theorem dX3_low_23 : decode cX3_low 23 = .ok (.aload_n 0, 1) := by decide +kernel
theorem dX3_low_24 : decode cX3_low 24 = .ok (.iload_n 1, 1) := by decide +kernel
theorem dX3_low_25 : decode cX3_low 25 = .ok (.iload_n 2, 1) := by decide +kernel
theorem dX3_low_26 : decode cX3_low 26 = .ok (.iconst 1, 1) := by decide +kernel
theorem dX3_low_27 : decode cX3_low 27 = .ok (.iadd, 1) := by decide +kernel
theorem dX3_low_28 : decode cX3_low 28 = .ok (.invokevirtual 77, 3) := by decide +kernel
theorem dX3_low_31 : decode cX3_low 31 = .ok (.bipush 8, 2) := by decide +kernel
theorem dX3_low_33 : decode cX3_low 33 = .ok (.ishl, 1) := by decide +kernel
theorem dX3_low_34 : decode cX3_low 34 = .ok (.ior, 1) := by decide +kernel
theorem dX3_low_35 : decode cX3_low 35 = .ok (.aload_n 0, 1) := by decide +kernel
theorem dX3_low_36 : decode cX3_low 36 = .ok (.iload_n 1, 1) := by decide +kernel
theorem dX3_low_37 : decode cX3_low 37 = .ok (.iload_n 2, 1) := by decide +kernel
theorem dX3_low_38 : decode cX3_low 38 = .ok (.invokevirtual 77, 3) := by decide +kernel
theorem dX3_low_41 : decode cX3_low 41 = .ok (.ior, 1) := by decide +kernel
theorem dX3_low_42 : decode cX3_low 42 = .ok (.ireturn, 1) := by decide +kernel
set_option maxRecDepth 20000 in
theorem ggX3_setHigh_X3_change : GoodIn wsX3_setHigh wsX3_change := goodIn_r _ [5, 6, 7, 8, 9, 10, 11, 12, 13, 14, 15, 16, 17, 18, 19, 20, 21, 22, 23, 24, 25, 26] (by decide +kernel) (by decide +kernel)
set_option maxRecDepth 20000 in
theorem gX3_setHigh_X3_change : GoodIn wsX3_setHigh (wsV RX3 81 RX3 yX3_change wsX3_change) := goodIn_app (goodIn_of _ (by decide +kernel)) ggX3_setHigh_X3_change
theorem dX3_setHigh_0 : decode cX3_setHigh 0 = .ok (.iconst 0, 1) := by decide +kernel
theorem dX3_setHigh_1 : decode cX3_setHigh 1 = .ok (.istore 4, 2) := by decide +kernel
theorem dX3_setHigh_3 : decode cX3_setHigh 3 = .ok (.iload 4, 2) := by decide +kernel
theorem dX3_setHigh_5 : decode cX3_setHigh 5 = .ok (.iconst 4, 1) := by decide +kernel
theorem dX3_setHigh_6 : decode cX3_setHigh 6 = .ok (.if_icmp .ge 28, 3) := by decide +kernel
theorem dX3_setHigh_9 : decode cX3_setHigh 9 = .ok (.aload_n 0, 1) := by decide +kernel
theorem dX3_setHigh_10 : decode cX3_setHigh 10 = .ok (.iload_n 1, 1) := by decide +kernel
theorem dX3_setHigh_11 : decode cX3_setHigh 11 = .ok (.iload_n 2, 1) := by decide +kernel
theorem dX3_setHigh_12 : decode cX3_setHigh 12 = .ok (.iload 4, 2) := by decide +kernel
theorem dX3_setHigh_14 : decode cX3_setHigh 14 = .ok (.iadd, 1) := by decide +kernel
theorem dX3_setHigh_15 : decode cX3_setHigh 15 = .ok (.iload_n 3, 1) := by decide +kernel
theorem dX3_setHigh_16 : decode cX3_setHigh 16 = .ok (.bipush 24, 2) := by decide +kernel
theorem dX3_setHigh_18 : decode cX3_setHigh 18 = .ok (.bipush 8, 2) := by decide +kernel
theorem dX3_setHigh_20 : decode cX3_setHigh 20 = .ok (.iload 4, 2) := by decide +kernel
theorem dX3_setHigh_22 : decode cX3_setHigh 22 = .ok (.imul, 1) := by decide +kernel
theorem dX3_setHigh_23 : decode cX3_setHigh 23 = .ok (.isub, 1) := by decide +kernel
theorem dX3_setHigh_24 : decode cX3_setHigh 24 = .ok (.ishr, 1) := by decide +kernel
theorem dX3_setHigh_25 : decode cX3_setHigh 25 = .ok (.invokevirtual 81, 3) := by decide +kernel
theorem dX3_setHigh_28 : decode cX3_setHigh 28 = .ok (.iinc 4 1, 3) := by decide +kernel
theorem dX3_setHigh_31 : decode cX3_setHigh 31 = .ok (.goto (-28), 3) := by decide +kernel
theorem dX3_setHigh_34 : decode cX3_setHigh 34 = .ok (.return_, 1) := by decide +kernel
set_option maxRecDepth 20000 in
theorem ggX3_setLow_X3_change : GoodIn wsX3_setLow wsX3_change := goodIn_r _ [5, 6, 7, 8, 9, 10, 11, 12, 13, 14, 15, 16, 17, 18, 19, 20, 21, 22, 23, 24, 25, 26] (by decide +kernel) (by decide +kernel)
set_option maxRecDepth 20000 in
theorem gX3_setLow_X3_change : GoodIn wsX3_setLow (wsV RX3 81 RX3 yX3_change wsX3_change) := goodIn_app (goodIn_of _ (by decide +kernel)) ggX3_setLow_X3_change
theorem dX3_setLow_0 : decode cX3_setLow 0 = .ok (.iconst 0, 1) := by decide +kernel
theorem dX3_setLow_1 : decode cX3_setLow 1 = .ok (.istore 4, 2) := by decide +kernel
theorem dX3_setLow_3 : decode cX3_setLow 3 = .ok (.iload 4, 2) := by decide +kernel
theorem dX3_setLow_5 : decode cX3_setLow 5 = .ok (.iconst 4, 1) := by decide +kernel
theorem dX3_setLow_6 : decode cX3_setLow 6 = .ok (.if_icmp .ge 25, 3) := by decide +kernel
theorem dX3_setLow_9 : decode cX3_setLow 9 = .ok (.aload_n 0, 1) := by decide +kernel
theorem dX3_setLow_10 : decode cX3_setLow 10 = .ok (.iload_n 1, 1) := by decide +kernel
theorem dX3_setLow_11 : decode cX3_setLow 11 = .ok (.iload_n 2, 1) := by decide +kernel
theorem dX3_setLow_12 : decode cX3_setLow 12 = .ok (.iload 4, 2) := by decide +kernel
theorem dX3_setLow_14 : decode cX3_setLow 14 = .ok (.iadd, 1) := by decide +kernel
theorem dX3_setLow_15 : decode cX3_setLow 15 = .ok (.iload_n 3, 1) := by decide +kernel
theorem dX3_setLow_16 : decode cX3_setLow 16 = .ok (.bipush 8, 2) := by decide +kernel
theorem dX3_setLow_18 : decode cX3_setLow 18 = .ok (.iload 4, 2) := by decide +kernel
theorem dX3_setLow_20 : decode cX3_setLow 20 = .ok (.imul, 1) := by decide +kernel
theorem dX3_setLow_21 : decode cX3_setLow 21 = .ok (.ishr, 1) := by decide +kernel
theorem dX3_setLow_22 : decode cX3_setLow 22 = .ok (.invokevirtual 81, 3) := by decide +kernel
theorem dX3_setLow_25 : decode cX3_setLow 25 = .ok (.iinc 4 1, 3) := by decide +kernel
theorem dX3_setLow_28 : decode cX3_setLow 28 = .ok (.goto (-25), 3) := by decide +kernel
theorem dX3_setLow_31 : decode cX3_setLow 31 = .ok (.return_, 1) := by decide +kernel
theorem dX3_place_0 : decode cX3_place 0 = .ok (.aload_n 0, 1) := by decide +kernel
theorem dX3_place_1 : decode cX3_place 1 = .ok (.getfield 66, 3) := by decide +kernel
theorem dX3_place_4 : decode cX3_place 4 = .ok (.aload_n 0, 1) := by decide +kernel
theorem dX3_place_5 : decode cX3_place 5 = .ok (.getfield 29, 3) := by decide +kernel
theorem dX3_place_8 : decode cX3_place 8 = .ok (.iload_n 1, 1) := by decide +kernel
theorem dX3_place_9 : decode cX3_place 9 = .ok (.iaload, 1) := by decide +kernel
theorem dX3_place_10 : decode cX3_place 10 = .ok (.iadd, 1) := by decide +kernel
theorem dX3_place_11 : decode cX3_place 11 = .ok (.ireturn, 1) := by decide +kernel
theorem dX3_moved_0 : decode cX3_moved 0 = .ok (.aload_n 0, 1) := by decide +kernel
theorem dX3_moved_1 : decode cX3_moved 1 = .ok (.getfield 16, 3) := by decide +kernel
theorem dX3_moved_4 : decode cX3_moved 4 = .ok (.ifCond .eq 9, 3) := by decide +kernel
theorem dX3_moved_7 : decode cX3_moved 7 = .ok (.iload_n 1, 1) := by decide +kernel
theorem dX3_moved_8 : decode cX3_moved 8 = .ok (.iload_n 2, 1) := by decide +kernel
theorem dX3_moved_9 : decode cX3_moved 9 = .ok (.iadd, 1) := by decide +kernel
theorem dX3_moved_10 : decode cX3_moved 10 = .ok (.goto 6, 3) := by decide +kernel
theorem dX3_moved_13 : decode cX3_moved 13 = .ok (.iload_n 1, 1) := by decide +kernel
theorem dX3_moved_14 : decode cX3_moved 14 = .ok (.iload_n 2, 1) := by decide +kernel
theorem dX3_moved_15 : decode cX3_moved 15 = .ok (.isub, 1) := by decide +kernel
theorem dX3_moved_16 : decode cX3_moved 16 = .ok (.ireturn, 1) := by decide +kernel
set_option maxRecDepth 20000 in
theorem ggX3_give_X3_at : GoodIn wsX3_give wsX3_at := goodIn_r _ [9, 10, 15, 16, 17, 18, 19, 20, 21, 22, 23, 24, 25, 26, 27, 28, 29, 30, 31, 32, 33, 34] (by decide +kernel) (by decide +kernel)
set_option maxRecDepth 20000 in
theorem gX3_give_X3_at : GoodIn wsX3_give (wsV RX3 77 RX3 yX3_at wsX3_at) := goodIn_app (goodIn_of _ (by decide +kernel)) ggX3_give_X3_at
set_option maxRecDepth 20000 in
theorem ggX3_give_X3_change : GoodIn wsX3_give wsX3_change := goodIn_r _ [14, 10, 15, 16, 17, 18, 19, 20, 21, 22, 23, 24, 25, 26, 27, 28, 29, 30, 31, 32, 33, 34] (by decide +kernel) (by decide +kernel)
set_option maxRecDepth 20000 in
theorem gX3_give_X3_change : GoodIn wsX3_give (wsV RX3 81 RX3 yX3_change wsX3_change) := goodIn_app (goodIn_of _ (by decide +kernel)) ggX3_give_X3_change
theorem dX3_give_0 : decode cX3_give 0 = .ok (.iconst 0, 1) := by decide +kernel
theorem dX3_give_1 : decode cX3_give 1 = .ok (.istore_n 3, 1) := by decide +kernel
theorem dX3_give_2 : decode cX3_give 2 = .ok (.iload_n 3, 1) := by decide +kernel
theorem dX3_give_3 : decode cX3_give 3 = .ok (.iload_n 2, 1) := by decide +kernel
theorem dX3_give_4 : decode cX3_give 4 = .ok (.if_icmp .ge 34, 3) := by decide +kernel
theorem dX3_give_7 : decode cX3_give 7 = .ok (.aload_n 0, 1) := by decide +kernel
theorem dX3_give_8 : decode cX3_give 8 = .ok (.getfield 44, 3) := by decide +kernel
theorem dX3_give_11 : decode cX3_give 11 = .ok (.aload_n 0, 1) := by decide +kernel
theorem dX3_give_12 : decode cX3_give 12 = .ok (.getfield 85, 3) := by decide +kernel
theorem dX3_give_15 : decode cX3_give 15 = .ok (.aload_n 0, 1) := by decide +kernel
theorem dX3_give_16 : decode cX3_give 16 = .ok (.iload_n 1, 1) := by decide +kernel
theorem dX3_give_17 : decode cX3_give 17 = .ok (.iload_n 3, 1) := by decide +kernel
theorem dX3_give_18 : decode cX3_give 18 = .ok (.invokevirtual 77, 3) := by decide +kernel
theorem dX3_give_21 : decode cX3_give 21 = .ok (.iastore, 1) := by decide +kernel
theorem dX3_give_22 : decode cX3_give 22 = .ok (.aload_n 0, 1) := by decide +kernel
theorem dX3_give_23 : decode cX3_give 23 = .ok (.dup, 1) := by decide +kernel
theorem dX3_give_24 : decode cX3_give 24 = .ok (.getfield 85, 3) := by decide +kernel
theorem dX3_give_27 : decode cX3_give 27 = .ok (.iconst 1, 1) := by decide +kernel
theorem dX3_give_28 : decode cX3_give 28 = .ok (.iadd, 1) := by decide +kernel
theorem dX3_give_29 : decode cX3_give 29 = .ok (.putfield 85, 3) := by decide +kernel
theorem dX3_give_32 : decode cX3_give 32 = .ok (.iinc 3 1, 3) := by decide +kernel
theorem dX3_give_35 : decode cX3_give 35 = .ok (.goto (-33), 3) := by decide +kernel
theorem dX3_give_38 : decode cX3_give 38 = .ok (.iload_n 2, 1) := by decide +kernel
theorem dX3_give_39 : decode cX3_give 39 = .ok (.istore_n 3, 1) := by decide +kernel
theorem dX3_give_40 : decode cX3_give 40 = .ok (.iload_n 3, 1) := by decide +kernel
theorem dX3_give_41 : decode cX3_give 41 = .ok (.aload_n 0, 1) := by decide +kernel
theorem dX3_give_42 : decode cX3_give 42 = .ok (.getfield 23, 3) := by decide +kernel
theorem dX3_give_45 : decode cX3_give 45 = .ok (.iload_n 1, 1) := by decide +kernel
theorem dX3_give_46 : decode cX3_give 46 = .ok (.iaload, 1) := by decide +kernel
theorem dX3_give_47 : decode cX3_give 47 = .ok (.if_icmp .ge 23, 3) := by decide +kernel
theorem dX3_give_50 : decode cX3_give 50 = .ok (.aload_n 0, 1) := by decide +kernel
theorem dX3_give_51 : decode cX3_give 51 = .ok (.iload_n 1, 1) := by decide +kernel
theorem dX3_give_52 : decode cX3_give 52 = .ok (.iload_n 3, 1) := by decide +kernel
theorem dX3_give_53 : decode cX3_give 53 = .ok (.iload_n 2, 1) := by decide +kernel
theorem dX3_give_54 : decode cX3_give 54 = .ok (.isub, 1) := by decide +kernel
theorem dX3_give_55 : decode cX3_give 55 = .ok (.aload_n 0, 1) := by decide +kernel
theorem dX3_give_56 : decode cX3_give 56 = .ok (.iload_n 1, 1) := by decide +kernel
theorem dX3_give_57 : decode cX3_give 57 = .ok (.iload_n 3, 1) := by decide +kernel
theorem dX3_give_58 : decode cX3_give 58 = .ok (.invokevirtual 77, 3) := by decide +kernel
theorem dX3_give_61 : decode cX3_give 61 = .ok (.invokevirtual 81, 3) := by decide +kernel
theorem dX3_give_64 : decode cX3_give 64 = .ok (.iinc 3 1, 3) := by decide +kernel
theorem dX3_give_67 : decode cX3_give 67 = .ok (.goto (-27), 3) := by decide +kernel
theorem dX3_give_70 : decode cX3_give 70 = .ok (.aload_n 0, 1) := by decide +kernel
theorem dX3_give_71 : decode cX3_give 71 = .ok (.getfield 23, 3) := by decide +kernel
theorem dX3_give_74 : decode cX3_give 74 = .ok (.iload_n 1, 1) := by decide +kernel
theorem dX3_give_75 : decode cX3_give 75 = .ok (.aload_n 0, 1) := by decide +kernel
theorem dX3_give_76 : decode cX3_give 76 = .ok (.getfield 23, 3) := by decide +kernel
theorem dX3_give_79 : decode cX3_give 79 = .ok (.iload_n 1, 1) := by decide +kernel
theorem dX3_give_80 : decode cX3_give 80 = .ok (.iaload, 1) := by decide +kernel
theorem dX3_give_81 : decode cX3_give 81 = .ok (.iload_n 2, 1) := by decide +kernel
theorem dX3_give_82 : decode cX3_give 82 = .ok (.isub, 1) := by decide +kernel
theorem dX3_give_83 : decode cX3_give 83 = .ok (.iastore, 1) := by decide +kernel
theorem dX3_give_84 : decode cX3_give 84 = .ok (.aload_n 0, 1) := by decide +kernel
theorem dX3_give_85 : decode cX3_give 85 = .ok (.getfield 29, 3) := by decide +kernel
theorem dX3_give_88 : decode cX3_give 88 = .ok (.iload_n 1, 1) := by decide +kernel
theorem dX3_give_89 : decode cX3_give 89 = .ok (.aload_n 0, 1) := by decide +kernel
theorem dX3_give_90 : decode cX3_give 90 = .ok (.getfield 29, 3) := by decide +kernel
theorem dX3_give_93 : decode cX3_give 93 = .ok (.iload_n 1, 1) := by decide +kernel
theorem dX3_give_94 : decode cX3_give 94 = .ok (.iaload, 1) := by decide +kernel
theorem dX3_give_95 : decode cX3_give 95 = .ok (.iload_n 2, 1) := by decide +kernel
theorem dX3_give_96 : decode cX3_give 96 = .ok (.iadd, 1) := by decide +kernel
theorem dX3_give_97 : decode cX3_give 97 = .ok (.iastore, 1) := by decide +kernel
theorem dX3_give_98 : decode cX3_give 98 = .ok (.return_, 1) := by decide +kernel
theorem dX3_needs_0 : decode cX3_needs 0 = .ok (.iload_n 0, 1) := by decide +kernel
theorem dX3_needs_1 : decode cX3_needs 1 = .ok (.iconst 2, 1) := by decide +kernel
theorem dX3_needs_2 : decode cX3_needs 2 = .ok (.if_icmp .ge 7, 3) := by decide +kernel
theorem dX3_needs_5 : decode cX3_needs 5 = .ok (.iconst 1, 1) := by decide +kernel
theorem dX3_needs_6 : decode cX3_needs 6 = .ok (.goto 24, 3) := by decide +kernel
theorem dX3_needs_9 : decode cX3_needs 9 = .ok (.iload_n 0, 1) := by decide +kernel
theorem dX3_needs_10 : decode cX3_needs 10 = .ok (.iconst 2, 1) := by decide +kernel
theorem dX3_needs_11 : decode cX3_needs 11 = .ok (.if_icmp .ne 7, 3) := by decide +kernel
theorem dX3_needs_14 : decode cX3_needs 14 = .ok (.iconst 5, 1) := by decide +kernel
theorem dX3_needs_15 : decode cX3_needs 15 = .ok (.goto 15, 3) := by decide +kernel
theorem dX3_needs_18 : decode cX3_needs 18 = .ok (.iload_n 0, 1) := by decide +kernel
theorem dX3_needs_19 : decode cX3_needs 19 = .ok (.bipush 7, 2) := by decide +kernel
theorem dX3_needs_21 : decode cX3_needs 21 = .ok (.if_icmp .ne 8, 3) := by decide +kernel
theorem dX3_needs_24 : decode cX3_needs 24 = .ok (.bipush 8, 2) := by decide +kernel
theorem dX3_needs_26 : decode cX3_needs 26 = .ok (.goto 4, 3) := by decide +kernel
theorem dX3_needs_29 : decode cX3_needs 29 = .ok (.iconst 4, 1) := by decide +kernel
theorem dX3_needs_30 : decode cX3_needs 30 = .ok (.ireturn, 1) := by decide +kernel
set_option maxRecDepth 20000 in
theorem ggX3_delta_X3_at : GoodIn wsX3_delta wsX3_at := goodIn_r _ [8, 9, 22, 23, 24, 25, 26, 27, 28, 29, 30, 31, 32, 33, 34, 35, 36, 37, 38, 39, 40, 41] (by decide +kernel) (by decide +kernel)
set_option maxRecDepth 20000 in
theorem gX3_delta_X3_at : GoodIn wsX3_delta (wsV RX3 77 RX3 yX3_at wsX3_at) := goodIn_app (goodIn_of _ (by decide +kernel)) ggX3_delta_X3_at
set_option maxRecDepth 20000 in
theorem ggX3_delta_X3_change : GoodIn wsX3_delta wsX3_change := goodIn_r _ [13, 9, 22, 23, 24, 25, 26, 27, 28, 29, 30, 31, 32, 33, 34, 35, 36, 37, 38, 39, 40, 41] (by decide +kernel) (by decide +kernel)
set_option maxRecDepth 20000 in
theorem gX3_delta_X3_change : GoodIn wsX3_delta (wsV RX3 81 RX3 yX3_change wsX3_change) := goodIn_app (goodIn_of _ (by decide +kernel)) ggX3_delta_X3_change
set_option maxRecDepth 20000 in
theorem ggX3_delta_X3_give : GoodIn wsX3_delta wsX3_give := goodIn_r _ [17, 18, 19, 20, 21, 4, 5, 6, 7, 8, 9, 10, 11, 12, 13, 22, 23, 24, 25, 26, 27, 28, 29, 30, 31, 32, 33, 34, 35, 36, 37, 38, 39, 40, 41] (by decide +kernel) (by decide +kernel)
set_option maxRecDepth 20000 in
theorem gX3_delta_X3_give : GoodIn wsX3_delta (wsV RX3 88 RX3 yX3_give wsX3_give) := goodIn_app (goodIn_of _ (by decide +kernel)) ggX3_delta_X3_give
theorem dX3_delta_0 : decode cX3_delta 0 = .ok (.aload_n 0, 1) := by decide +kernel
theorem dX3_delta_1 : decode cX3_delta 1 = .ok (.iload_n 1, 1) := by decide +kernel
theorem dX3_delta_2 : decode cX3_delta 2 = .ok (.iconst 0, 1) := by decide +kernel
theorem dX3_delta_3 : decode cX3_delta 3 = .ok (.invokevirtual 77, 3) := by decide +kernel
theorem dX3_delta_6 : decode cX3_delta 6 = .ok (.istore_n 2, 1) := by decide +kernel
theorem dX3_delta_7 : decode cX3_delta 7 = .ok (.aload_n 0, 1) := by decide +kernel
theorem dX3_delta_8 : decode cX3_delta 8 = .ok (.getfield 26, 3) := by decide +kernel
theorem dX3_delta_11 : decode cX3_delta 11 = .ok (.bipush 32, 2) := by decide +kernel
theorem dX3_delta_13 : decode cX3_delta 13 = .ok (.iload_n 1, 1) := by decide +kernel
theorem dX3_delta_14 : decode cX3_delta 14 = .ok (.imul, 1) := by decide +kernel
theorem dX3_delta_15 : decode cX3_delta 15 = .ok (.aload_n 0, 1) := by decide +kernel
theorem dX3_delta_16 : decode cX3_delta 16 = .ok (.getfield 13, 3) := by decide +kernel
theorem dX3_delta_19 : decode cX3_delta 19 = .ok (.iload_n 1, 1) := by decide +kernel
theorem dX3_delta_20 : decode cX3_delta 20 = .ok (.iaload, 1) := by decide +kernel
theorem dX3_delta_21 : decode cX3_delta 21 = .ok (.iadd, 1) := by decide +kernel
theorem dX3_delta_22 : decode cX3_delta 22 = .ok (.iconst 1, 1) := by decide +kernel
theorem dX3_delta_23 : decode cX3_delta 23 = .ok (.isub, 1) := by decide +kernel
theorem dX3_delta_24 : decode cX3_delta 24 = .ok (.iaload, 1) := by decide +kernel
theorem dX3_delta_25 : decode cX3_delta 25 = .ok (.istore_n 3, 1) := by decide +kernel
theorem dX3_delta_26 : decode cX3_delta 26 = .ok (.aload_n 0, 1) := by decide +kernel
theorem dX3_delta_27 : decode cX3_delta 27 = .ok (.getfield 16, 3) := by decide +kernel
theorem dX3_delta_30 : decode cX3_delta 30 = .ok (.ifCond .eq 13, 3) := by decide +kernel
theorem dX3_delta_33 : decode cX3_delta 33 = .ok (.iload_n 2, 1) := by decide +kernel
theorem dX3_delta_34 : decode cX3_delta 34 = .ok (.iload_n 3, 1) := by decide +kernel
theorem dX3_delta_35 : decode cX3_delta 35 = .ok (.isub, 1) := by decide +kernel
theorem dX3_delta_36 : decode cX3_delta 36 = .ok (.sipush 255, 3) := by decide +kernel
theorem dX3_delta_39 : decode cX3_delta 39 = .ok (.iand, 1) := by decide +kernel
theorem dX3_delta_40 : decode cX3_delta 40 = .ok (.goto 10, 3) := by decide +kernel
theorem dX3_delta_43 : decode cX3_delta 43 = .ok (.iload_n 2, 1) := by decide +kernel
theorem dX3_delta_44 : decode cX3_delta 44 = .ok (.iload_n 3, 1) := by decide +kernel
theorem dX3_delta_45 : decode cX3_delta 45 = .ok (.iadd, 1) := by decide +kernel
theorem dX3_delta_46 : decode cX3_delta 46 = .ok (.sipush 255, 3) := by decide +kernel
theorem dX3_delta_49 : decode cX3_delta 49 = .ok (.iand, 1) := by decide +kernel
theorem dX3_delta_50 : decode cX3_delta 50 = .ok (.istore 4, 2) := by decide +kernel
theorem dX3_delta_52 : decode cX3_delta 52 = .ok (.bipush 31, 2) := by decide +kernel
theorem dX3_delta_54 : decode cX3_delta 54 = .ok (.istore 5, 2) := by decide +kernel
theorem dX3_delta_56 : decode cX3_delta 56 = .ok (.iload 5, 2) := by decide +kernel
theorem dX3_delta_58 : decode cX3_delta 58 = .ok (.ifCond .le 35, 3) := by decide +kernel
theorem dX3_delta_61 : decode cX3_delta 61 = .ok (.aload_n 0, 1) := by decide +kernel
theorem dX3_delta_62 : decode cX3_delta 62 = .ok (.getfield 26, 3) := by decide +kernel
theorem dX3_delta_65 : decode cX3_delta 65 = .ok (.bipush 32, 2) := by decide +kernel
theorem dX3_delta_67 : decode cX3_delta 67 = .ok (.iload_n 1, 1) := by decide +kernel
theorem dX3_delta_68 : decode cX3_delta 68 = .ok (.imul, 1) := by decide +kernel
theorem dX3_delta_69 : decode cX3_delta 69 = .ok (.iload 5, 2) := by decide +kernel
theorem dX3_delta_71 : decode cX3_delta 71 = .ok (.iadd, 1) := by decide +kernel
theorem dX3_delta_72 : decode cX3_delta 72 = .ok (.aload_n 0, 1) := by decide +kernel
theorem dX3_delta_73 : decode cX3_delta 73 = .ok (.getfield 26, 3) := by decide +kernel
theorem dX3_delta_76 : decode cX3_delta 76 = .ok (.bipush 32, 2) := by decide +kernel
theorem dX3_delta_78 : decode cX3_delta 78 = .ok (.iload_n 1, 1) := by decide +kernel
theorem dX3_delta_79 : decode cX3_delta 79 = .ok (.imul, 1) := by decide +kernel
theorem dX3_delta_80 : decode cX3_delta 80 = .ok (.iload 5, 2) := by decide +kernel
theorem dX3_delta_82 : decode cX3_delta 82 = .ok (.iadd, 1) := by decide +kernel
theorem dX3_delta_83 : decode cX3_delta 83 = .ok (.iconst 1, 1) := by decide +kernel
theorem dX3_delta_84 : decode cX3_delta 84 = .ok (.isub, 1) := by decide +kernel
theorem dX3_delta_85 : decode cX3_delta 85 = .ok (.iaload, 1) := by decide +kernel
theorem dX3_delta_86 : decode cX3_delta 86 = .ok (.iastore, 1) := by decide +kernel
theorem dX3_delta_87 : decode cX3_delta 87 = .ok (.iinc 5 (-1), 3) := by decide +kernel
theorem dX3_delta_90 : decode cX3_delta 90 = .ok (.goto (-34), 3) := by decide +kernel
theorem dX3_delta_93 : decode cX3_delta 93 = .ok (.aload_n 0, 1) := by decide +kernel
theorem dX3_delta_94 : decode cX3_delta 94 = .ok (.getfield 26, 3) := by decide +kernel
theorem dX3_delta_97 : decode cX3_delta 97 = .ok (.bipush 32, 2) := by decide +kernel
theorem dX3_delta_99 : decode cX3_delta 99 = .ok (.iload_n 1, 1) := by decide +kernel
theorem dX3_delta_100 : decode cX3_delta 100 = .ok (.imul, 1) := by decide +kernel
theorem dX3_delta_101 : decode cX3_delta 101 = .ok (.aload_n 0, 1) := by decide +kernel
theorem dX3_delta_102 : decode cX3_delta 102 = .ok (.getfield 16, 3) := by decide +kernel
theorem dX3_delta_105 : decode cX3_delta 105 = .ok (.ifCond .eq 7, 3) := by decide +kernel
theorem dX3_delta_108 : decode cX3_delta 108 = .ok (.iload_n 2, 1) := by decide +kernel
theorem dX3_delta_109 : decode cX3_delta 109 = .ok (.goto 5, 3) := by decide +kernel
theorem dX3_delta_112 : decode cX3_delta 112 = .ok (.iload 4, 2) := by decide +kernel
theorem dX3_delta_114 : decode cX3_delta 114 = .ok (.iastore, 1) := by decide +kernel
theorem dX3_delta_115 : decode cX3_delta 115 = .ok (.aload_n 0, 1) := by decide +kernel
theorem dX3_delta_116 : decode cX3_delta 116 = .ok (.iload_n 1, 1) := by decide +kernel
theorem dX3_delta_117 : decode cX3_delta 117 = .ok (.iconst 0, 1) := by decide +kernel
theorem dX3_delta_118 : decode cX3_delta 118 = .ok (.iload 4, 2) := by decide +kernel
end
section
theorem dX3_delta_120 : decode cX3_delta 120 = .ok (.invokevirtual 81, 3) := by decide +kernel
theorem dX3_delta_123 : decode cX3_delta 123 = .ok (.aload_n 0, 1) := by decide +kernel
theorem dX3_delta_124 : decode cX3_delta 124 = .ok (.iload_n 1, 1) := by decide +kernel
theorem dX3_delta_125 : decode cX3_delta 125 = .ok (.iconst 1, 1) := by decide +kernel
theorem dX3_delta_126 : decode cX3_delta 126 = .ok (.invokevirtual 88, 3) := by decide +kernel
theorem dX3_delta_129 : decode cX3_delta 129 = .ok (.return_, 1) := by decide +kernel
set_option maxRecDepth 20000 in
theorem ggX3_arm_X3_at : GoodIn wsX3_arm wsX3_at := goodIn_r _ [6, 7, 30, 31, 32, 33, 34, 35, 36, 37, 38, 39, 40, 41, 42, 43, 44, 45, 46, 47, 48, 49] (by decide +kernel) (by decide +kernel)
set_option maxRecDepth 20000 in
theorem gX3_arm_X3_at : GoodIn wsX3_arm (wsV RX3 77 RX3 yX3_at wsX3_at) := goodIn_app (goodIn_of _ (by decide +kernel)) ggX3_arm_X3_at
set_option maxRecDepth 20000 in
theorem ggX3_arm_X3_place : GoodIn wsX3_arm wsX3_place := goodIn_r _ [11, 12, 13, 30, 31, 32, 33, 34, 35, 36, 37, 38, 39, 40, 41, 42, 43, 44, 45, 46, 47, 48, 49] (by decide +kernel) (by decide +kernel)
set_option maxRecDepth 20000 in
theorem gX3_arm_X3_place : GoodIn wsX3_arm (wsV RX3 92 RX3 yX3_place wsX3_place) := goodIn_app (goodIn_of _ (by decide +kernel)) ggX3_arm_X3_place
set_option maxRecDepth 20000 in
theorem ggX3_arm_X3_moved : GoodIn wsX3_arm wsX3_moved := goodIn_r _ [17, 18, 30, 31, 32, 33, 34, 35, 36, 37, 38, 39, 40, 41, 42, 43, 44, 45, 46, 47, 48, 49] (by decide +kernel) (by decide +kernel)
set_option maxRecDepth 20000 in
theorem gX3_arm_X3_moved : GoodIn wsX3_arm (wsV RX3 96 RX3 yX3_moved wsX3_moved) := goodIn_app (goodIn_of _ (by decide +kernel)) ggX3_arm_X3_moved
set_option maxRecDepth 20000 in
theorem ggX3_arm_X3_change : GoodIn wsX3_arm wsX3_change := goodIn_r _ [22, 7, 30, 31, 32, 33, 34, 35, 36, 37, 38, 39, 40, 41, 42, 43, 44, 45, 46, 47, 48, 49] (by decide +kernel) (by decide +kernel)
set_option maxRecDepth 20000 in
theorem gX3_arm_X3_change : GoodIn wsX3_arm (wsV RX3 81 RX3 yX3_change wsX3_change) := goodIn_app (goodIn_of _ (by decide +kernel)) ggX3_arm_X3_change
set_option maxRecDepth 20000 in
theorem ggX3_arm_X3_give : GoodIn wsX3_arm wsX3_give := goodIn_r _ [26, 27, 28, 29, 13, 2, 3, 4, 5, 6, 7, 19, 20, 21, 22, 30, 31, 32, 33, 34, 35, 36, 37, 38, 39, 40, 41, 42, 43, 44, 45, 46, 47, 48, 49] (by decide +kernel) (by decide +kernel)
set_option maxRecDepth 20000 in
theorem gX3_arm_X3_give : GoodIn wsX3_arm (wsV RX3 88 RX3 yX3_give wsX3_give) := goodIn_app (goodIn_of _ (by decide +kernel)) ggX3_arm_X3_give
theorem dX3_arm_0 : decode cX3_arm 0 = .ok (.aload_n 0, 1) := by decide +kernel
theorem dX3_arm_1 : decode cX3_arm 1 = .ok (.iload_n 1, 1) := by decide +kernel
theorem dX3_arm_2 : decode cX3_arm 2 = .ok (.iconst 3, 1) := by decide +kernel
theorem dX3_arm_3 : decode cX3_arm 3 = .ok (.invokevirtual 77, 3) := by decide +kernel
theorem dX3_arm_6 : decode cX3_arm 6 = .ok (.sipush 235, 3) := by decide +kernel
theorem dX3_arm_9 : decode cX3_arm 9 = .ok (.if_icmp .ne 85, 3) := by decide +kernel
theorem dX3_arm_12 : decode cX3_arm 12 = .ok (.aload_n 0, 1) := by decide +kernel
theorem dX3_arm_13 : decode cX3_arm 13 = .ok (.iload_n 1, 1) := by decide +kernel
theorem dX3_arm_14 : decode cX3_arm 14 = .ok (.iconst 0, 1) := by decide +kernel
theorem dX3_arm_15 : decode cX3_arm 15 = .ok (.invokevirtual 77, 3) := by decide +kernel
theorem dX3_arm_18 : decode cX3_arm 18 = .ok (.aload_n 0, 1) := by decide +kernel
theorem dX3_arm_19 : decode cX3_arm 19 = .ok (.iload_n 1, 1) := by decide +kernel
theorem dX3_arm_20 : decode cX3_arm 20 = .ok (.iconst 1, 1) := by decide +kernel
theorem dX3_arm_21 : decode cX3_arm 21 = .ok (.invokevirtual 77, 3) := by decide +kernel
theorem dX3_arm_24 : decode cX3_arm 24 = .ok (.bipush 8, 2) := by decide +kernel
theorem dX3_arm_26 : decode cX3_arm 26 = .ok (.ishl, 1) := by decide +kernel
theorem dX3_arm_27 : decode cX3_arm 27 = .ok (.ior, 1) := by decide +kernel
theorem dX3_arm_28 : decode cX3_arm 28 = .ok (.aload_n 0, 1) := by decide +kernel
theorem dX3_arm_29 : decode cX3_arm 29 = .ok (.iload_n 1, 1) := by decide +kernel
theorem dX3_arm_30 : decode cX3_arm 30 = .ok (.iconst 2, 1) := by decide +kernel
theorem dX3_arm_31 : decode cX3_arm 31 = .ok (.invokevirtual 77, 3) := by decide +kernel
theorem dX3_arm_34 : decode cX3_arm 34 = .ok (.bipush 16, 2) := by decide +kernel
theorem dX3_arm_36 : decode cX3_arm 36 = .ok (.ishl, 1) := by decide +kernel
theorem dX3_arm_37 : decode cX3_arm 37 = .ok (.ior, 1) := by decide +kernel
theorem dX3_arm_38 : decode cX3_arm 38 = .ok (.istore_n 2, 1) := by decide +kernel
theorem dX3_arm_39 : decode cX3_arm 39 = .ok (.aload_n 0, 1) := by decide +kernel
theorem dX3_arm_40 : decode cX3_arm 40 = .ok (.iconst 4, 1) := by decide +kernel
theorem dX3_arm_41 : decode cX3_arm 41 = .ok (.iload_n 2, 1) := by decide +kernel
theorem dX3_arm_42 : decode cX3_arm 42 = .ok (.imul, 1) := by decide +kernel
theorem dX3_arm_43 : decode cX3_arm 43 = .ok (.aload_n 0, 1) := by decide +kernel
theorem dX3_arm_44 : decode cX3_arm 44 = .ok (.iload_n 1, 1) := by decide +kernel
theorem dX3_arm_45 : decode cX3_arm 45 = .ok (.invokevirtual 92, 3) := by decide +kernel
theorem dX3_arm_48 : decode cX3_arm 48 = .ok (.bipush 8, 2) := by decide +kernel
theorem dX3_arm_50 : decode cX3_arm 50 = .ok (.iadd, 1) := by decide +kernel
theorem dX3_arm_51 : decode cX3_arm 51 = .ok (.invokevirtual 96, 3) := by decide +kernel
theorem dX3_arm_54 : decode cX3_arm 54 = .ok (.iconst 2, 1) := by decide +kernel
theorem dX3_arm_55 : decode cX3_arm 55 = .ok (.iushr, 1) := by decide +kernel
theorem dX3_arm_56 : decode cX3_arm 56 = .ok (.istore_n 2, 1) := by decide +kernel
theorem dX3_arm_57 : decode cX3_arm 57 = .ok (.aload_n 0, 1) := by decide +kernel
theorem dX3_arm_58 : decode cX3_arm 58 = .ok (.iload_n 1, 1) := by decide +kernel
theorem dX3_arm_59 : decode cX3_arm 59 = .ok (.iconst 0, 1) := by decide +kernel
theorem dX3_arm_60 : decode cX3_arm 60 = .ok (.iload_n 2, 1) := by decide +kernel
theorem dX3_arm_61 : decode cX3_arm 61 = .ok (.invokevirtual 81, 3) := by decide +kernel
theorem dX3_arm_64 : decode cX3_arm 64 = .ok (.aload_n 0, 1) := by decide +kernel
theorem dX3_arm_65 : decode cX3_arm 65 = .ok (.iload_n 1, 1) := by decide +kernel
theorem dX3_arm_66 : decode cX3_arm 66 = .ok (.iconst 1, 1) := by decide +kernel
theorem dX3_arm_67 : decode cX3_arm 67 = .ok (.iload_n 2, 1) := by decide +kernel
theorem dX3_arm_68 : decode cX3_arm 68 = .ok (.bipush 8, 2) := by decide +kernel
theorem dX3_arm_70 : decode cX3_arm 70 = .ok (.ishr, 1) := by decide +kernel
theorem dX3_arm_71 : decode cX3_arm 71 = .ok (.invokevirtual 81, 3) := by decide +kernel
theorem dX3_arm_74 : decode cX3_arm 74 = .ok (.aload_n 0, 1) := by decide +kernel
theorem dX3_arm_75 : decode cX3_arm 75 = .ok (.iload_n 1, 1) := by decide +kernel
theorem dX3_arm_76 : decode cX3_arm 76 = .ok (.iconst 2, 1) := by decide +kernel
theorem dX3_arm_77 : decode cX3_arm 77 = .ok (.iload_n 2, 1) := by decide +kernel
theorem dX3_arm_78 : decode cX3_arm 78 = .ok (.bipush 16, 2) := by decide +kernel
theorem dX3_arm_80 : decode cX3_arm 80 = .ok (.ishr, 1) := by decide +kernel
theorem dX3_arm_81 : decode cX3_arm 81 = .ok (.invokevirtual 81, 3) := by decide +kernel
theorem dX3_arm_84 : decode cX3_arm 84 = .ok (.aload_n 0, 1) := by decide +kernel
theorem dX3_arm_85 : decode cX3_arm 85 = .ok (.getfield 32, 3) := by decide +kernel
theorem dX3_arm_88 : decode cX3_arm 88 = .ok (.iload_n 1, 1) := by decide +kernel
theorem dX3_arm_89 : decode cX3_arm 89 = .ok (.dup2, 1) := by decide +kernel
theorem dX3_arm_90 : decode cX3_arm 90 = .ok (.iaload, 1) := by decide +kernel
theorem dX3_arm_91 : decode cX3_arm 91 = .ok (.iconst 1, 1) := by decide +kernel
theorem dX3_arm_92 : decode cX3_arm 92 = .ok (.iadd, 1) := by decide +kernel
theorem dX3_arm_93 : decode cX3_arm 93 = .ok (.iastore, 1) := by decide +kernel
theorem dX3_arm_94 : decode cX3_arm 94 = .ok (.aload_n 0, 1) := by decide +kernel
theorem dX3_arm_95 : decode cX3_arm 95 = .ok (.iload_n 1, 1) := by decide +kernel
theorem dX3_arm_96 : decode cX3_arm 96 = .ok (.iconst 4, 1) := by decide +kernel
theorem dX3_arm_97 : decode cX3_arm 97 = .ok (.invokevirtual 88, 3) := by decide +kernel
theorem dX3_arm_100 : decode cX3_arm 100 = .ok (.return_, 1) := by decide +kernel
set_option maxRecDepth 20000 in
theorem ggX3_thumb_X3_at : GoodIn wsX3_thumb wsX3_at := goodIn_r _ [6, 7, 30, 31, 32, 33, 34, 35, 36, 37, 38, 39, 40, 41, 42, 43, 44, 45, 46, 47, 48, 49] (by decide +kernel) (by decide +kernel)
set_option maxRecDepth 20000 in
theorem gX3_thumb_X3_at : GoodIn wsX3_thumb (wsV RX3 77 RX3 yX3_at wsX3_at) := goodIn_app (goodIn_of _ (by decide +kernel)) ggX3_thumb_X3_at
set_option maxRecDepth 20000 in
theorem ggX3_thumb_X3_give : GoodIn wsX3_thumb wsX3_give := goodIn_r _ [11, 12, 13, 14, 15, 2, 3, 4, 5, 6, 7, 16, 17, 18, 19, 30, 31, 32, 33, 34, 35, 36, 37, 38, 39, 40, 41, 42, 43, 44, 45, 46, 47, 48, 49] (by decide +kernel) (by decide +kernel)
set_option maxRecDepth 20000 in
theorem gX3_thumb_X3_give : GoodIn wsX3_thumb (wsV RX3 88 RX3 yX3_give wsX3_give) := goodIn_app (goodIn_of _ (by decide +kernel)) ggX3_thumb_X3_give
set_option maxRecDepth 20000 in
theorem ggX3_thumb_X3_place : GoodIn wsX3_thumb wsX3_place := goodIn_r _ [23, 24, 15, 30, 31, 32, 33, 34, 35, 36, 37, 38, 39, 40, 41, 42, 43, 44, 45, 46, 47, 48, 49] (by decide +kernel) (by decide +kernel)
set_option maxRecDepth 20000 in
theorem gX3_thumb_X3_place : GoodIn wsX3_thumb (wsV RX3 92 RX3 yX3_place wsX3_place) := goodIn_app (goodIn_of _ (by decide +kernel)) ggX3_thumb_X3_place
set_option maxRecDepth 20000 in
theorem ggX3_thumb_X3_moved : GoodIn wsX3_thumb wsX3_moved := goodIn_r _ [28, 29, 30, 31, 32, 33, 34, 35, 36, 37, 38, 39, 40, 41, 42, 43, 44, 45, 46, 47, 48, 49] (by decide +kernel) (by decide +kernel)
set_option maxRecDepth 20000 in
theorem gX3_thumb_X3_moved : GoodIn wsX3_thumb (wsV RX3 96 RX3 yX3_moved wsX3_moved) := goodIn_app (goodIn_of _ (by decide +kernel)) ggX3_thumb_X3_moved
set_option maxRecDepth 20000 in
theorem ggX3_thumb_X3_change : GoodIn wsX3_thumb wsX3_change := goodIn_r _ [19, 7, 30, 31, 32, 33, 34, 35, 36, 37, 38, 39, 40, 41, 42, 43, 44, 45, 46, 47, 48, 49] (by decide +kernel) (by decide +kernel)
set_option maxRecDepth 20000 in
theorem gX3_thumb_X3_change : GoodIn wsX3_thumb (wsV RX3 81 RX3 yX3_change wsX3_change) := goodIn_app (goodIn_of _ (by decide +kernel)) ggX3_thumb_X3_change
theorem dX3_thumb_0 : decode cX3_thumb 0 = .ok (.aload_n 0, 1) := by decide +kernel
theorem dX3_thumb_1 : decode cX3_thumb 1 = .ok (.iload_n 1, 1) := by decide +kernel
theorem dX3_thumb_2 : decode cX3_thumb 2 = .ok (.iconst 1, 1) := by decide +kernel
theorem dX3_thumb_3 : decode cX3_thumb 3 = .ok (.invokevirtual 77, 3) := by decide +kernel
theorem dX3_thumb_6 : decode cX3_thumb 6 = .ok (.iconst 3, 1) := by decide +kernel
theorem dX3_thumb_7 : decode cX3_thumb 7 = .ok (.ishr, 1) := by decide +kernel
theorem dX3_thumb_8 : decode cX3_thumb 8 = .ok (.bipush 30, 2) := by decide +kernel
theorem dX3_thumb_10 : decode cX3_thumb 10 = .ok (.if_icmp .ne 16, 3) := by decide +kernel
theorem dX3_thumb_13 : decode cX3_thumb 13 = .ok (.aload_n 0, 1) := by decide +kernel
theorem dX3_thumb_14 : decode cX3_thumb 14 = .ok (.iload_n 1, 1) := by decide +kernel
theorem dX3_thumb_15 : decode cX3_thumb 15 = .ok (.iconst 3, 1) := by decide +kernel
theorem dX3_thumb_16 : decode cX3_thumb 16 = .ok (.invokevirtual 77, 3) := by decide +kernel
theorem dX3_thumb_19 : decode cX3_thumb 19 = .ok (.iconst 3, 1) := by decide +kernel
theorem dX3_thumb_20 : decode cX3_thumb 20 = .ok (.ishr, 1) := by decide +kernel
theorem dX3_thumb_21 : decode cX3_thumb 21 = .ok (.bipush 31, 2) := by decide +kernel
theorem dX3_thumb_23 : decode cX3_thumb 23 = .ok (.if_icmp .eq 10, 3) := by decide +kernel
theorem dX3_thumb_26 : decode cX3_thumb 26 = .ok (.aload_n 0, 1) := by decide +kernel
theorem dX3_thumb_27 : decode cX3_thumb 27 = .ok (.iload_n 1, 1) := by decide +kernel
theorem dX3_thumb_28 : decode cX3_thumb 28 = .ok (.iconst 2, 1) := by decide +kernel
theorem dX3_thumb_29 : decode cX3_thumb 29 = .ok (.invokevirtual 88, 3) := by decide +kernel
theorem dX3_thumb_32 : decode cX3_thumb 32 = .ok (.return_, 1) := by decide +kernel
theorem dX3_thumb_33 : decode cX3_thumb 33 = .ok (.aload_n 0, 1) := by decide +kernel
theorem dX3_thumb_34 : decode cX3_thumb 34 = .ok (.iload_n 1, 1) := by decide +kernel
theorem dX3_thumb_35 : decode cX3_thumb 35 = .ok (.iconst 1, 1) := by decide +kernel
theorem dX3_thumb_36 : decode cX3_thumb 36 = .ok (.invokevirtual 77, 3) := by decide +kernel
theorem dX3_thumb_39 : decode cX3_thumb 39 = .ok (.bipush 7, 2) := by decide +kernel
theorem dX3_thumb_41 : decode cX3_thumb 41 = .ok (.iand, 1) := by decide +kernel
theorem dX3_thumb_42 : decode cX3_thumb 42 = .ok (.bipush 19, 2) := by decide +kernel
theorem dX3_thumb_44 : decode cX3_thumb 44 = .ok (.ishl, 1) := by decide +kernel
theorem dX3_thumb_45 : decode cX3_thumb 45 = .ok (.aload_n 0, 1) := by decide +kernel
theorem dX3_thumb_46 : decode cX3_thumb 46 = .ok (.iload_n 1, 1) := by decide +kernel
theorem dX3_thumb_47 : decode cX3_thumb 47 = .ok (.iconst 0, 1) := by decide +kernel
theorem dX3_thumb_48 : decode cX3_thumb 48 = .ok (.invokevirtual 77, 3) := by decide +kernel
theorem dX3_thumb_51 : decode cX3_thumb 51 = .ok (.bipush 11, 2) := by decide +kernel
theorem dX3_thumb_53 : decode cX3_thumb 53 = .ok (.ishl, 1) := by decide +kernel
theorem dX3_thumb_54 : decode cX3_thumb 54 = .ok (.ior, 1) := by decide +kernel
theorem dX3_thumb_55 : decode cX3_thumb 55 = .ok (.aload_n 0, 1) := by decide +kernel
theorem dX3_thumb_56 : decode cX3_thumb 56 = .ok (.iload_n 1, 1) := by decide +kernel
theorem dX3_thumb_57 : decode cX3_thumb 57 = .ok (.iconst 3, 1) := by decide +kernel
theorem dX3_thumb_58 : decode cX3_thumb 58 = .ok (.invokevirtual 77, 3) := by decide +kernel
theorem dX3_thumb_61 : decode cX3_thumb 61 = .ok (.bipush 7, 2) := by decide +kernel
theorem dX3_thumb_63 : decode cX3_thumb 63 = .ok (.iand, 1) := by decide +kernel
theorem dX3_thumb_64 : decode cX3_thumb 64 = .ok (.bipush 8, 2) := by decide +kernel
theorem dX3_thumb_66 : decode cX3_thumb 66 = .ok (.ishl, 1) := by decide +kernel
theorem dX3_thumb_67 : decode cX3_thumb 67 = .ok (.ior, 1) := by decide +kernel
theorem dX3_thumb_68 : decode cX3_thumb 68 = .ok (.aload_n 0, 1) := by decide +kernel
theorem dX3_thumb_69 : decode cX3_thumb 69 = .ok (.iload_n 1, 1) := by decide +kernel
theorem dX3_thumb_70 : decode cX3_thumb 70 = .ok (.iconst 2, 1) := by decide +kernel
theorem dX3_thumb_71 : decode cX3_thumb 71 = .ok (.invokevirtual 77, 3) := by decide +kernel
theorem dX3_thumb_74 : decode cX3_thumb 74 = .ok (.ior, 1) := by decide +kernel
theorem dX3_thumb_75 : decode cX3_thumb 75 = .ok (.istore_n 2, 1) := by decide +kernel
theorem dX3_thumb_76 : decode cX3_thumb 76 = .ok (.aload_n 0, 1) := by decide +kernel
theorem dX3_thumb_77 : decode cX3_thumb 77 = .ok (.iconst 2, 1) := by decide +kernel
theorem dX3_thumb_78 : decode cX3_thumb 78 = .ok (.iload_n 2, 1) := by decide +kernel
theorem dX3_thumb_79 : decode cX3_thumb 79 = .ok (.imul, 1) := by decide +kernel
theorem dX3_thumb_80 : decode cX3_thumb 80 = .ok (.aload_n 0, 1) := by decide +kernel
theorem dX3_thumb_81 : decode cX3_thumb 81 = .ok (.iload_n 1, 1) := by decide +kernel
theorem dX3_thumb_82 : decode cX3_thumb 82 = .ok (.invokevirtual 92, 3) := by decide +kernel
theorem dX3_thumb_85 : decode cX3_thumb 85 = .ok (.iconst 4, 1) := by decide +kernel
theorem dX3_thumb_86 : decode cX3_thumb 86 = .ok (.iadd, 1) := by decide +kernel
theorem dX3_thumb_87 : decode cX3_thumb 87 = .ok (.invokevirtual 96, 3) := by decide +kernel
theorem dX3_thumb_90 : decode cX3_thumb 90 = .ok (.iconst 1, 1) := by decide +kernel
theorem dX3_thumb_91 : decode cX3_thumb 91 = .ok (.iushr, 1) := by decide +kernel
theorem dX3_thumb_92 : decode cX3_thumb 92 = .ok (.istore_n 2, 1) := by decide +kernel
theorem dX3_thumb_93 : decode cX3_thumb 93 = .ok (.aload_n 0, 1) := by decide +kernel
theorem dX3_thumb_94 : decode cX3_thumb 94 = .ok (.iload_n 1, 1) := by decide +kernel
theorem dX3_thumb_95 : decode cX3_thumb 95 = .ok (.iconst 1, 1) := by decide +kernel
theorem dX3_thumb_96 : decode cX3_thumb 96 = .ok (.sipush 240, 3) := by decide +kernel
theorem dX3_thumb_99 : decode cX3_thumb 99 = .ok (.iload_n 2, 1) := by decide +kernel
theorem dX3_thumb_100 : decode cX3_thumb 100 = .ok (.bipush 19, 2) := by decide +kernel
theorem dX3_thumb_102 : decode cX3_thumb 102 = .ok (.ishr, 1) := by decide +kernel
theorem dX3_thumb_103 : decode cX3_thumb 103 = .ok (.bipush 7, 2) := by decide +kernel
theorem dX3_thumb_105 : decode cX3_thumb 105 = .ok (.iand, 1) := by decide +kernel
theorem dX3_thumb_106 : decode cX3_thumb 106 = .ok (.ior, 1) := by decide +kernel
theorem dX3_thumb_107 : decode cX3_thumb 107 = .ok (.invokevirtual 81, 3) := by decide +kernel
theorem dX3_thumb_110 : decode cX3_thumb 110 = .ok (.aload_n 0, 1) := by decide +kernel
theorem dX3_thumb_111 : decode cX3_thumb 111 = .ok (.iload_n 1, 1) := by decide +kernel
theorem dX3_thumb_112 : decode cX3_thumb 112 = .ok (.iconst 0, 1) := by decide +kernel
theorem dX3_thumb_113 : decode cX3_thumb 113 = .ok (.iload_n 2, 1) := by decide +kernel
theorem dX3_thumb_114 : decode cX3_thumb 114 = .ok (.bipush 11, 2) := by decide +kernel
theorem dX3_thumb_116 : decode cX3_thumb 116 = .ok (.ishr, 1) := by decide +kernel
theorem dX3_thumb_117 : decode cX3_thumb 117 = .ok (.invokevirtual 81, 3) := by decide +kernel
theorem dX3_thumb_120 : decode cX3_thumb 120 = .ok (.aload_n 0, 1) := by decide +kernel
theorem dX3_thumb_121 : decode cX3_thumb 121 = .ok (.iload_n 1, 1) := by decide +kernel
theorem dX3_thumb_122 : decode cX3_thumb 122 = .ok (.iconst 3, 1) := by decide +kernel
theorem dX3_thumb_123 : decode cX3_thumb 123 = .ok (.sipush 248, 3) := by decide +kernel
theorem dX3_thumb_126 : decode cX3_thumb 126 = .ok (.iload_n 2, 1) := by decide +kernel
theorem dX3_thumb_127 : decode cX3_thumb 127 = .ok (.bipush 8, 2) := by decide +kernel
theorem dX3_thumb_129 : decode cX3_thumb 129 = .ok (.ishr, 1) := by decide +kernel
theorem dX3_thumb_130 : decode cX3_thumb 130 = .ok (.bipush 7, 2) := by decide +kernel
theorem dX3_thumb_132 : decode cX3_thumb 132 = .ok (.iand, 1) := by decide +kernel
theorem dX3_thumb_133 : decode cX3_thumb 133 = .ok (.ior, 1) := by decide +kernel
theorem dX3_thumb_134 : decode cX3_thumb 134 = .ok (.invokevirtual 81, 3) := by decide +kernel
theorem dX3_thumb_137 : decode cX3_thumb 137 = .ok (.aload_n 0, 1) := by decide +kernel
theorem dX3_thumb_138 : decode cX3_thumb 138 = .ok (.iload_n 1, 1) := by decide +kernel
theorem dX3_thumb_139 : decode cX3_thumb 139 = .ok (.iconst 2, 1) := by decide +kernel
theorem dX3_thumb_140 : decode cX3_thumb 140 = .ok (.iload_n 2, 1) := by decide +kernel
theorem dX3_thumb_141 : decode cX3_thumb 141 = .ok (.invokevirtual 81, 3) := by decide +kernel
theorem dX3_thumb_144 : decode cX3_thumb 144 = .ok (.aload_n 0, 1) := by decide +kernel
theorem dX3_thumb_145 : decode cX3_thumb 145 = .ok (.getfield 32, 3) := by decide +kernel
theorem dX3_thumb_148 : decode cX3_thumb 148 = .ok (.iload_n 1, 1) := by decide +kernel
theorem dX3_thumb_149 : decode cX3_thumb 149 = .ok (.dup2, 1) := by decide +kernel
theorem dX3_thumb_150 : decode cX3_thumb 150 = .ok (.iaload, 1) := by decide +kernel
theorem dX3_thumb_151 : decode cX3_thumb 151 = .ok (.iconst 1, 1) := by decide +kernel
theorem dX3_thumb_152 : decode cX3_thumb 152 = .ok (.iadd, 1) := by decide +kernel
theorem dX3_thumb_153 : decode cX3_thumb 153 = .ok (.iastore, 1) := by decide +kernel
theorem dX3_thumb_154 : decode cX3_thumb 154 = .ok (.aload_n 0, 1) := by decide +kernel
theorem dX3_thumb_155 : decode cX3_thumb 155 = .ok (.iload_n 1, 1) := by decide +kernel
theorem dX3_thumb_156 : decode cX3_thumb 156 = .ok (.iconst 4, 1) := by decide +kernel
theorem dX3_thumb_157 : decode cX3_thumb 157 = .ok (.invokevirtual 88, 3) := by decide +kernel
theorem dX3_thumb_160 : decode cX3_thumb 160 = .ok (.return_, 1) := by decide +kernel
set_option maxRecDepth 20000 in
theorem ggX3_power_X3_high : GoodIn wsX3_power wsX3_high := goodIn_r _ [8, 9, 10, 11, 7, 12, 13, 40, 41, 42, 43, 44, 45, 46, 47, 48, 49, 50, 51, 52, 53, 54, 55, 56, 57, 58, 59] (by decide +kernel) (by decide +kernel)
set_option maxRecDepth 20000 in
theorem gX3_power_X3_high : GoodIn wsX3_power (wsV RX3 99 RX3 yX3_high wsX3_high) := goodIn_app (goodIn_of _ (by decide +kernel)) ggX3_power_X3_high
set_option maxRecDepth 20000 in
theorem ggX3_power_X3_place : GoodIn wsX3_power wsX3_place := goodIn_r _ [17, 18, 19, 40, 41, 42, 43, 44, 45, 46, 47, 48, 49, 50, 51, 52, 53, 54, 55, 56, 57, 58, 59] (by decide +kernel) (by decide +kernel)
set_option maxRecDepth 20000 in
theorem gX3_power_X3_place : GoodIn wsX3_power (wsV RX3 92 RX3 yX3_place wsX3_place) := goodIn_app (goodIn_of _ (by decide +kernel)) ggX3_power_X3_place
set_option maxRecDepth 20000 in
theorem ggX3_power_X3_moved : GoodIn wsX3_power wsX3_moved := goodIn_r _ [23, 24, 40, 41, 42, 43, 44, 45, 46, 47, 48, 49, 50, 51, 52, 53, 54, 55, 56, 57, 58, 59] (by decide +kernel) (by decide +kernel)
set_option maxRecDepth 20000 in
theorem gX3_power_X3_moved : GoodIn wsX3_power (wsV RX3 96 RX3 yX3_moved wsX3_moved) := goodIn_app (goodIn_of _ (by decide +kernel)) ggX3_power_X3_moved
set_option maxRecDepth 20000 in
theorem ggX3_power_X3_setHigh : GoodIn wsX3_power wsX3_setHigh := goodIn_r _ [28, 29, 30, 31, 7, 32, 13, 40, 41, 42, 43, 44, 45, 46, 47, 48, 49, 50, 51, 52, 53, 54, 55, 56, 57, 58, 59] (by decide +kernel) (by decide +kernel)
set_option maxRecDepth 20000 in
theorem gX3_power_X3_setHigh : GoodIn wsX3_power (wsV RX3 104 RX3 yX3_setHigh wsX3_setHigh) := goodIn_app (goodIn_of _ (by decide +kernel)) ggX3_power_X3_setHigh
set_option maxRecDepth 20000 in
theorem ggX3_power_X3_give : GoodIn wsX3_power wsX3_give := goodIn_r _ [36, 37, 38, 39, 19, 9, 10, 11, 7, 12, 13, 29, 30, 31, 32, 40, 41, 42, 43, 44, 45, 46, 47, 48, 49, 50, 51, 52, 53, 54, 55, 56, 57, 58, 59] (by decide +kernel) (by decide +kernel)
set_option maxRecDepth 20000 in
theorem gX3_power_X3_give : GoodIn wsX3_power (wsV RX3 88 RX3 yX3_give wsX3_give) := goodIn_app (goodIn_of _ (by decide +kernel)) ggX3_power_X3_give
theorem dX3_power_0 : decode cX3_power 0 = .ok (.aload_n 0, 1) := by decide +kernel
theorem dX3_power_1 : decode cX3_power 1 = .ok (.iload_n 1, 1) := by decide +kernel
theorem dX3_power_2 : decode cX3_power 2 = .ok (.iconst 0, 1) := by decide +kernel
theorem dX3_power_3 : decode cX3_power 3 = .ok (.invokevirtual 99, 3) := by decide +kernel
theorem dX3_power_6 : decode cX3_power 6 = .ok (.istore_n 2, 1) := by decide +kernel
theorem dX3_power_7 : decode cX3_power 7 = .ok (.iload_n 2, 1) := by decide +kernel
theorem dX3_power_8 : decode cX3_power 8 = .ok (.bipush 26, 2) := by decide +kernel
theorem dX3_power_10 : decode cX3_power 10 = .ok (.iushr, 1) := by decide +kernel
theorem dX3_power_11 : decode cX3_power 11 = .ok (.bipush 18, 2) := by decide +kernel
theorem dX3_power_13 : decode cX3_power 13 = .ok (.if_icmp .ne 49, 3) := by decide +kernel
theorem dX3_power_16 : decode cX3_power 16 = .ok (.iload_n 2, 1) := by decide +kernel
theorem dX3_power_17 : decode cX3_power 17 = .ok (.iconst 3, 1) := by decide +kernel
theorem dX3_power_18 : decode cX3_power 18 = .ok (.iand, 1) := by decide +kernel
theorem dX3_power_19 : decode cX3_power 19 = .ok (.iconst 1, 1) := by decide +kernel
theorem dX3_power_20 : decode cX3_power 20 = .ok (.if_icmp .ne 42, 3) := by decide +kernel
theorem dX3_power_23 : decode cX3_power 23 = .ok (.aload_n 0, 1) := by decide +kernel
theorem dX3_power_24 : decode cX3_power 24 = .ok (.iload_n 2, 1) := by decide +kernel
theorem dX3_power_25 : decode cX3_power 25 = .ok (.ldc 102, 2) := by decide +kernel
theorem dX3_power_27 : decode cX3_power 27 = .ok (.iand, 1) := by decide +kernel
theorem dX3_power_28 : decode cX3_power 28 = .ok (.aload_n 0, 1) := by decide +kernel
theorem dX3_power_29 : decode cX3_power 29 = .ok (.iload_n 1, 1) := by decide +kernel
theorem dX3_power_30 : decode cX3_power 30 = .ok (.invokevirtual 92, 3) := by decide +kernel
theorem dX3_power_33 : decode cX3_power 33 = .ok (.invokevirtual 96, 3) := by decide +kernel
theorem dX3_power_36 : decode cX3_power 36 = .ok (.istore_n 3, 1) := by decide +kernel
theorem dX3_power_37 : decode cX3_power 37 = .ok (.aload_n 0, 1) := by decide +kernel
theorem dX3_power_38 : decode cX3_power 38 = .ok (.iload_n 1, 1) := by decide +kernel
theorem dX3_power_39 : decode cX3_power 39 = .ok (.iconst 0, 1) := by decide +kernel
theorem dX3_power_40 : decode cX3_power 40 = .ok (.iload_n 2, 1) := by decide +kernel
theorem dX3_power_41 : decode cX3_power 41 = .ok (.ldc 103, 2) := by decide +kernel
theorem dX3_power_43 : decode cX3_power 43 = .ok (.iand, 1) := by decide +kernel
theorem dX3_power_44 : decode cX3_power 44 = .ok (.iload_n 3, 1) := by decide +kernel
theorem dX3_power_45 : decode cX3_power 45 = .ok (.ldc 102, 2) := by decide +kernel
theorem dX3_power_47 : decode cX3_power 47 = .ok (.iand, 1) := by decide +kernel
theorem dX3_power_48 : decode cX3_power 48 = .ok (.ior, 1) := by decide +kernel
theorem dX3_power_49 : decode cX3_power 49 = .ok (.invokevirtual 104, 3) := by decide +kernel
theorem dX3_power_52 : decode cX3_power 52 = .ok (.aload_n 0, 1) := by decide +kernel
theorem dX3_power_53 : decode cX3_power 53 = .ok (.getfield 32, 3) := by decide +kernel
theorem dX3_power_56 : decode cX3_power 56 = .ok (.iload_n 1, 1) := by decide +kernel
theorem dX3_power_57 : decode cX3_power 57 = .ok (.dup2, 1) := by decide +kernel
theorem dX3_power_58 : decode cX3_power 58 = .ok (.iaload, 1) := by decide +kernel
theorem dX3_power_59 : decode cX3_power 59 = .ok (.iconst 1, 1) := by decide +kernel
theorem dX3_power_60 : decode cX3_power 60 = .ok (.iadd, 1) := by decide +kernel
theorem dX3_power_61 : decode cX3_power 61 = .ok (.iastore, 1) := by decide +kernel
theorem dX3_power_62 : decode cX3_power 62 = .ok (.aload_n 0, 1) := by decide +kernel
theorem dX3_power_63 : decode cX3_power 63 = .ok (.iload_n 1, 1) := by decide +kernel
theorem dX3_power_64 : decode cX3_power 64 = .ok (.iconst 4, 1) := by decide +kernel
theorem dX3_power_65 : decode cX3_power 65 = .ok (.invokevirtual 88, 3) := by decide +kernel
theorem dX3_power_68 : decode cX3_power 68 = .ok (.return_, 1) := by decide +kernel
set_option maxRecDepth 20000 in
theorem ggX3_sparc_X3_at : GoodIn wsX3_sparc wsX3_at := goodIn_r _ [8, 9, 40, 41, 42, 43, 44, 45, 46, 47, 48, 49, 50, 51, 52, 53, 54, 55, 56, 57, 58, 59] (by decide +kernel) (by decide +kernel)
set_option maxRecDepth 20000 in
theorem gX3_sparc_X3_at : GoodIn wsX3_sparc (wsV RX3 77 RX3 yX3_at wsX3_at) := goodIn_app (goodIn_of _ (by decide +kernel)) ggX3_sparc_X3_at
set_option maxRecDepth 20000 in
theorem ggX3_sparc_X3_high : GoodIn wsX3_sparc wsX3_high := goodIn_r _ [13, 4, 5, 6, 7, 8, 9, 40, 41, 42, 43, 44, 45, 46, 47, 48, 49, 50, 51, 52, 53, 54, 55, 56, 57, 58, 59] (by decide +kernel) (by decide +kernel)
set_option maxRecDepth 20000 in
theorem gX3_sparc_X3_high : GoodIn wsX3_sparc (wsV RX3 99 RX3 yX3_high wsX3_high) := goodIn_app (goodIn_of _ (by decide +kernel)) ggX3_sparc_X3_high
set_option maxRecDepth 20000 in
theorem ggX3_sparc_X3_place : GoodIn wsX3_sparc wsX3_place := goodIn_r _ [17, 18, 19, 40, 41, 42, 43, 44, 45, 46, 47, 48, 49, 50, 51, 52, 53, 54, 55, 56, 57, 58, 59] (by decide +kernel) (by decide +kernel)
set_option maxRecDepth 20000 in
theorem gX3_sparc_X3_place : GoodIn wsX3_sparc (wsV RX3 92 RX3 yX3_place wsX3_place) := goodIn_app (goodIn_of _ (by decide +kernel)) ggX3_sparc_X3_place
set_option maxRecDepth 20000 in
theorem ggX3_sparc_X3_moved : GoodIn wsX3_sparc wsX3_moved := goodIn_r _ [23, 24, 40, 41, 42, 43, 44, 45, 46, 47, 48, 49, 50, 51, 52, 53, 54, 55, 56, 57, 58, 59] (by decide +kernel) (by decide +kernel)
set_option maxRecDepth 20000 in
theorem gX3_sparc_X3_moved : GoodIn wsX3_sparc (wsV RX3 96 RX3 yX3_moved wsX3_moved) := goodIn_app (goodIn_of _ (by decide +kernel)) ggX3_sparc_X3_moved
set_option maxRecDepth 20000 in
theorem ggX3_sparc_X3_setHigh : GoodIn wsX3_sparc wsX3_setHigh := goodIn_r _ [28, 29, 30, 31, 7, 32, 9, 40, 41, 42, 43, 44, 45, 46, 47, 48, 49, 50, 51, 52, 53, 54, 55, 56, 57, 58, 59] (by decide +kernel) (by decide +kernel)
set_option maxRecDepth 20000 in
theorem gX3_sparc_X3_setHigh : GoodIn wsX3_sparc (wsV RX3 104 RX3 yX3_setHigh wsX3_setHigh) := goodIn_app (goodIn_of _ (by decide +kernel)) ggX3_sparc_X3_setHigh
set_option maxRecDepth 20000 in
theorem ggX3_sparc_X3_give : GoodIn wsX3_sparc wsX3_give := goodIn_r _ [36, 37, 38, 39, 19, 4, 5, 6, 7, 8, 9, 29, 30, 31, 32, 40, 41, 42, 43, 44, 45, 46, 47, 48, 49, 50, 51, 52, 53, 54, 55, 56, 57, 58, 59] (by decide +kernel) (by decide +kernel)
set_option maxRecDepth 20000 in
theorem gX3_sparc_X3_give : GoodIn wsX3_sparc (wsV RX3 88 RX3 yX3_give wsX3_give) := goodIn_app (goodIn_of _ (by decide +kernel)) ggX3_sparc_X3_give
theorem dX3_sparc_0 : decode cX3_sparc 0 = .ok (.aload_n 0, 1) := by decide +kernel
theorem dX3_sparc_1 : decode cX3_sparc 1 = .ok (.iload_n 1, 1) := by decide +kernel
theorem dX3_sparc_2 : decode cX3_sparc 2 = .ok (.iconst 1, 1) := by decide +kernel
theorem dX3_sparc_3 : decode cX3_sparc 3 = .ok (.invokevirtual 77, 3) := by decide +kernel
theorem dX3_sparc_6 : decode cX3_sparc 6 = .ok (.bipush 6, 2) := by decide +kernel
theorem dX3_sparc_8 : decode cX3_sparc 8 = .ok (.ishr, 1) := by decide +kernel
theorem dX3_sparc_9 : decode cX3_sparc 9 = .ok (.istore_n 2, 1) := by decide +kernel
theorem dX3_sparc_10 : decode cX3_sparc 10 = .ok (.aload_n 0, 1) := by decide +kernel
theorem dX3_sparc_11 : decode cX3_sparc 11 = .ok (.iload_n 1, 1) := by decide +kernel
theorem dX3_sparc_12 : decode cX3_sparc 12 = .ok (.iconst 0, 1) := by decide +kernel
theorem dX3_sparc_13 : decode cX3_sparc 13 = .ok (.invokevirtual 77, 3) := by decide +kernel
theorem dX3_sparc_16 : decode cX3_sparc 16 = .ok (.bipush 64, 2) := by decide +kernel
theorem dX3_sparc_18 : decode cX3_sparc 18 = .ok (.if_icmp .ne 7, 3) := by decide +kernel
theorem dX3_sparc_21 : decode cX3_sparc 21 = .ok (.iload_n 2, 1) := by decide +kernel
theorem dX3_sparc_22 : decode cX3_sparc 22 = .ok (.ifCond .eq 19, 3) := by decide +kernel
theorem dX3_sparc_25 : decode cX3_sparc 25 = .ok (.aload_n 0, 1) := by decide +kernel
theorem dX3_sparc_26 : decode cX3_sparc 26 = .ok (.iload_n 1, 1) := by decide +kernel
theorem dX3_sparc_27 : decode cX3_sparc 27 = .ok (.iconst 0, 1) := by decide +kernel
theorem dX3_sparc_28 : decode cX3_sparc 28 = .ok (.invokevirtual 77, 3) := by decide +kernel
theorem dX3_sparc_31 : decode cX3_sparc 31 = .ok (.bipush 127, 2) := by decide +kernel
theorem dX3_sparc_33 : decode cX3_sparc 33 = .ok (.if_icmp .ne 76, 3) := by decide +kernel
theorem dX3_sparc_36 : decode cX3_sparc 36 = .ok (.iload_n 2, 1) := by decide +kernel
theorem dX3_sparc_37 : decode cX3_sparc 37 = .ok (.iconst 3, 1) := by decide +kernel
theorem dX3_sparc_38 : decode cX3_sparc 38 = .ok (.if_icmp .ne 71, 3) := by decide +kernel
theorem dX3_sparc_41 : decode cX3_sparc 41 = .ok (.aload_n 0, 1) := by decide +kernel
theorem dX3_sparc_42 : decode cX3_sparc 42 = .ok (.aload_n 0, 1) := by decide +kernel
theorem dX3_sparc_43 : decode cX3_sparc 43 = .ok (.iload_n 1, 1) := by decide +kernel
theorem dX3_sparc_44 : decode cX3_sparc 44 = .ok (.iconst 0, 1) := by decide +kernel
theorem dX3_sparc_45 : decode cX3_sparc 45 = .ok (.invokevirtual 99, 3) := by decide +kernel
theorem dX3_sparc_48 : decode cX3_sparc 48 = .ok (.iconst 4, 1) := by decide +kernel
theorem dX3_sparc_49 : decode cX3_sparc 49 = .ok (.imul, 1) := by decide +kernel
theorem dX3_sparc_50 : decode cX3_sparc 50 = .ok (.aload_n 0, 1) := by decide +kernel
theorem dX3_sparc_51 : decode cX3_sparc 51 = .ok (.iload_n 1, 1) := by decide +kernel
theorem dX3_sparc_52 : decode cX3_sparc 52 = .ok (.invokevirtual 92, 3) := by decide +kernel
theorem dX3_sparc_55 : decode cX3_sparc 55 = .ok (.invokevirtual 96, 3) := by decide +kernel
theorem dX3_sparc_58 : decode cX3_sparc 58 = .ok (.iconst 2, 1) := by decide +kernel
end
section
theorem dX3_sparc_59 : decode cX3_sparc 59 = .ok (.iushr, 1) := by decide +kernel
theorem dX3_sparc_60 : decode cX3_sparc 60 = .ok (.istore_n 3, 1) := by decide +kernel
theorem dX3_sparc_61 : decode cX3_sparc 61 = .ok (.iload_n 3, 1) := by decide +kernel
theorem dX3_sparc_62 : decode cX3_sparc 62 = .ok (.bipush 22, 2) := by decide +kernel
theorem dX3_sparc_64 : decode cX3_sparc 64 = .ok (.ishr, 1) := by decide +kernel
theorem dX3_sparc_65 : decode cX3_sparc 65 = .ok (.iconst 1, 1) := by decide +kernel
theorem dX3_sparc_66 : decode cX3_sparc 66 = .ok (.iand, 1) := by decide +kernel
theorem dX3_sparc_67 : decode cX3_sparc 67 = .ok (.iconst 1, 1) := by decide +kernel
theorem dX3_sparc_68 : decode cX3_sparc 68 = .ok (.if_icmp .ne 9, 3) := by decide +kernel
theorem dX3_sparc_71 : decode cX3_sparc 71 = .ok (.sipush 255, 3) := by decide +kernel
theorem dX3_sparc_74 : decode cX3_sparc 74 = .ok (.goto 4, 3) := by decide +kernel
theorem dX3_sparc_77 : decode cX3_sparc 77 = .ok (.iconst 0, 1) := by decide +kernel
theorem dX3_sparc_78 : decode cX3_sparc 78 = .ok (.istore 4, 2) := by decide +kernel
theorem dX3_sparc_80 : decode cX3_sparc 80 = .ok (.aload_n 0, 1) := by decide +kernel
theorem dX3_sparc_81 : decode cX3_sparc 81 = .ok (.iload_n 1, 1) := by decide +kernel
theorem dX3_sparc_82 : decode cX3_sparc 82 = .ok (.iconst 0, 1) := by decide +kernel
theorem dX3_sparc_83 : decode cX3_sparc 83 = .ok (.ldc 107, 2) := by decide +kernel
theorem dX3_sparc_85 : decode cX3_sparc 85 = .ok (.iload 4, 2) := by decide +kernel
theorem dX3_sparc_87 : decode cX3_sparc 87 = .ok (.bipush 22, 2) := by decide +kernel
theorem dX3_sparc_89 : decode cX3_sparc 89 = .ok (.ishl, 1) := by decide +kernel
theorem dX3_sparc_90 : decode cX3_sparc 90 = .ok (.ior, 1) := by decide +kernel
theorem dX3_sparc_91 : decode cX3_sparc 91 = .ok (.iload_n 3, 1) := by decide +kernel
theorem dX3_sparc_92 : decode cX3_sparc 92 = .ok (.ldc 108, 2) := by decide +kernel
theorem dX3_sparc_94 : decode cX3_sparc 94 = .ok (.iand, 1) := by decide +kernel
theorem dX3_sparc_95 : decode cX3_sparc 95 = .ok (.ior, 1) := by decide +kernel
theorem dX3_sparc_96 : decode cX3_sparc 96 = .ok (.invokevirtual 104, 3) := by decide +kernel
theorem dX3_sparc_99 : decode cX3_sparc 99 = .ok (.aload_n 0, 1) := by decide +kernel
theorem dX3_sparc_100 : decode cX3_sparc 100 = .ok (.getfield 32, 3) := by decide +kernel
theorem dX3_sparc_103 : decode cX3_sparc 103 = .ok (.iload_n 1, 1) := by decide +kernel
theorem dX3_sparc_104 : decode cX3_sparc 104 = .ok (.dup2, 1) := by decide +kernel
theorem dX3_sparc_105 : decode cX3_sparc 105 = .ok (.iaload, 1) := by decide +kernel
theorem dX3_sparc_106 : decode cX3_sparc 106 = .ok (.iconst 1, 1) := by decide +kernel
theorem dX3_sparc_107 : decode cX3_sparc 107 = .ok (.iadd, 1) := by decide +kernel
theorem dX3_sparc_108 : decode cX3_sparc 108 = .ok (.iastore, 1) := by decide +kernel
theorem dX3_sparc_109 : decode cX3_sparc 109 = .ok (.aload_n 0, 1) := by decide +kernel
theorem dX3_sparc_110 : decode cX3_sparc 110 = .ok (.iload_n 1, 1) := by decide +kernel
theorem dX3_sparc_111 : decode cX3_sparc 111 = .ok (.iconst 4, 1) := by decide +kernel
theorem dX3_sparc_112 : decode cX3_sparc 112 = .ok (.invokevirtual 88, 3) := by decide +kernel
theorem dX3_sparc_115 : decode cX3_sparc 115 = .ok (.return_, 1) := by decide +kernel
set_option maxRecDepth 20000 in
theorem ggX3_risc_X3_low : GoodIn wsX3_risc wsX3_low := goodIn_r _ [7, 8, 9, 10, 6, 11, 12, 39, 40, 41, 42, 43, 44, 45, 46, 47, 48, 49, 50, 51, 52, 53, 54, 55, 56, 57, 58] (by decide +kernel) (by decide +kernel)
set_option maxRecDepth 20000 in
theorem gX3_risc_X3_low : GoodIn wsX3_risc (wsV RX3 109 RX3 yX3_low wsX3_low) := goodIn_app (goodIn_of _ (by decide +kernel)) ggX3_risc_X3_low
set_option maxRecDepth 20000 in
theorem ggX3_risc_X3_place : GoodIn wsX3_risc wsX3_place := goodIn_r _ [16, 17, 18, 39, 40, 41, 42, 43, 44, 45, 46, 47, 48, 49, 50, 51, 52, 53, 54, 55, 56, 57, 58] (by decide +kernel) (by decide +kernel)
set_option maxRecDepth 20000 in
theorem gX3_risc_X3_place : GoodIn wsX3_risc (wsV RX3 92 RX3 yX3_place wsX3_place) := goodIn_app (goodIn_of _ (by decide +kernel)) ggX3_risc_X3_place
set_option maxRecDepth 20000 in
theorem ggX3_risc_X3_moved : GoodIn wsX3_risc wsX3_moved := goodIn_r _ [22, 23, 39, 40, 41, 42, 43, 44, 45, 46, 47, 48, 49, 50, 51, 52, 53, 54, 55, 56, 57, 58] (by decide +kernel) (by decide +kernel)
set_option maxRecDepth 20000 in
theorem gX3_risc_X3_moved : GoodIn wsX3_risc (wsV RX3 96 RX3 yX3_moved wsX3_moved) := goodIn_app (goodIn_of _ (by decide +kernel)) ggX3_risc_X3_moved
set_option maxRecDepth 20000 in
theorem ggX3_risc_X3_setLow : GoodIn wsX3_risc wsX3_setLow := goodIn_r _ [27, 28, 29, 30, 6, 31, 12, 39, 40, 41, 42, 43, 44, 45, 46, 47, 48, 49, 50, 51, 52, 53, 54, 55, 56, 57, 58] (by decide +kernel) (by decide +kernel)
set_option maxRecDepth 20000 in
theorem gX3_risc_X3_setLow : GoodIn wsX3_risc (wsV RX3 112 RX3 yX3_setLow wsX3_setLow) := goodIn_app (goodIn_of _ (by decide +kernel)) ggX3_risc_X3_setLow
set_option maxRecDepth 20000 in
theorem ggX3_risc_X3_give : GoodIn wsX3_risc wsX3_give := goodIn_r _ [35, 36, 37, 38, 18, 8, 9, 10, 6, 11, 12, 28, 29, 30, 31, 39, 40, 41, 42, 43, 44, 45, 46, 47, 48, 49, 50, 51, 52, 53, 54, 55, 56, 57, 58] (by decide +kernel) (by decide +kernel)
set_option maxRecDepth 20000 in
theorem gX3_risc_X3_give : GoodIn wsX3_risc (wsV RX3 88 RX3 yX3_give wsX3_give) := goodIn_app (goodIn_of _ (by decide +kernel)) ggX3_risc_X3_give
theorem dX3_risc_0 : decode cX3_risc 0 = .ok (.aload_n 0, 1) := by decide +kernel
theorem dX3_risc_1 : decode cX3_risc 1 = .ok (.iload_n 1, 1) := by decide +kernel
theorem dX3_risc_2 : decode cX3_risc 2 = .ok (.iconst 0, 1) := by decide +kernel
theorem dX3_risc_3 : decode cX3_risc 3 = .ok (.invokevirtual 109, 3) := by decide +kernel
theorem dX3_risc_6 : decode cX3_risc 6 = .ok (.istore_n 2, 1) := by decide +kernel
theorem dX3_risc_7 : decode cX3_risc 7 = .ok (.iload_n 2, 1) := by decide +kernel
theorem dX3_risc_8 : decode cX3_risc 8 = .ok (.bipush 7, 2) := by decide +kernel
theorem dX3_risc_10 : decode cX3_risc 10 = .ok (.ishr, 1) := by decide +kernel
theorem dX3_risc_11 : decode cX3_risc 11 = .ok (.bipush 31, 2) := by decide +kernel
theorem dX3_risc_13 : decode cX3_risc 13 = .ok (.iand, 1) := by decide +kernel
theorem dX3_risc_14 : decode cX3_risc 14 = .ok (.istore_n 3, 1) := by decide +kernel
theorem dX3_risc_15 : decode cX3_risc 15 = .ok (.iload_n 2, 1) := by decide +kernel
theorem dX3_risc_16 : decode cX3_risc 16 = .ok (.bipush 127, 2) := by decide +kernel
theorem dX3_risc_18 : decode cX3_risc 18 = .ok (.iand, 1) := by decide +kernel
theorem dX3_risc_19 : decode cX3_risc 19 = .ok (.bipush 111, 2) := by decide +kernel
theorem dX3_risc_21 : decode cX3_risc 21 = .ok (.if_icmp .ne 145, 3) := by decide +kernel
theorem dX3_risc_24 : decode cX3_risc 24 = .ok (.iload_n 3, 1) := by decide +kernel
theorem dX3_risc_25 : decode cX3_risc 25 = .ok (.iconst 1, 1) := by decide +kernel
theorem dX3_risc_26 : decode cX3_risc 26 = .ok (.if_icmp .eq 8, 3) := by decide +kernel
theorem dX3_risc_29 : decode cX3_risc 29 = .ok (.iload_n 3, 1) := by decide +kernel
theorem dX3_risc_30 : decode cX3_risc 30 = .ok (.iconst 5, 1) := by decide +kernel
theorem dX3_risc_31 : decode cX3_risc 31 = .ok (.if_icmp .ne 135, 3) := by decide +kernel
theorem dX3_risc_34 : decode cX3_risc 34 = .ok (.iload_n 2, 1) := by decide +kernel
theorem dX3_risc_35 : decode cX3_risc 35 = .ok (.bipush 31, 2) := by decide +kernel
theorem dX3_risc_37 : decode cX3_risc 37 = .ok (.iushr, 1) := by decide +kernel
theorem dX3_risc_38 : decode cX3_risc 38 = .ok (.bipush 20, 2) := by decide +kernel
theorem dX3_risc_40 : decode cX3_risc 40 = .ok (.ishl, 1) := by decide +kernel
theorem dX3_risc_41 : decode cX3_risc 41 = .ok (.iload_n 2, 1) := by decide +kernel
theorem dX3_risc_42 : decode cX3_risc 42 = .ok (.bipush 12, 2) := by decide +kernel
theorem dX3_risc_44 : decode cX3_risc 44 = .ok (.ishr, 1) := by decide +kernel
theorem dX3_risc_45 : decode cX3_risc 45 = .ok (.sipush 255, 3) := by decide +kernel
theorem dX3_risc_48 : decode cX3_risc 48 = .ok (.iand, 1) := by decide +kernel
theorem dX3_risc_49 : decode cX3_risc 49 = .ok (.bipush 12, 2) := by decide +kernel
theorem dX3_risc_51 : decode cX3_risc 51 = .ok (.ishl, 1) := by decide +kernel
theorem dX3_risc_52 : decode cX3_risc 52 = .ok (.ior, 1) := by decide +kernel
theorem dX3_risc_53 : decode cX3_risc 53 = .ok (.iload_n 2, 1) := by decide +kernel
theorem dX3_risc_54 : decode cX3_risc 54 = .ok (.bipush 20, 2) := by decide +kernel
theorem dX3_risc_56 : decode cX3_risc 56 = .ok (.ishr, 1) := by decide +kernel
theorem dX3_risc_57 : decode cX3_risc 57 = .ok (.iconst 1, 1) := by decide +kernel
theorem dX3_risc_58 : decode cX3_risc 58 = .ok (.iand, 1) := by decide +kernel
theorem dX3_risc_59 : decode cX3_risc 59 = .ok (.bipush 11, 2) := by decide +kernel
theorem dX3_risc_61 : decode cX3_risc 61 = .ok (.ishl, 1) := by decide +kernel
theorem dX3_risc_62 : decode cX3_risc 62 = .ok (.ior, 1) := by decide +kernel
theorem dX3_risc_63 : decode cX3_risc 63 = .ok (.iload_n 2, 1) := by decide +kernel
theorem dX3_risc_64 : decode cX3_risc 64 = .ok (.bipush 21, 2) := by decide +kernel
theorem dX3_risc_66 : decode cX3_risc 66 = .ok (.ishr, 1) := by decide +kernel
theorem dX3_risc_67 : decode cX3_risc 67 = .ok (.sipush 1023, 3) := by decide +kernel
theorem dX3_risc_70 : decode cX3_risc 70 = .ok (.iand, 1) := by decide +kernel
theorem dX3_risc_71 : decode cX3_risc 71 = .ok (.iconst 1, 1) := by decide +kernel
theorem dX3_risc_72 : decode cX3_risc 72 = .ok (.ishl, 1) := by decide +kernel
theorem dX3_risc_73 : decode cX3_risc 73 = .ok (.ior, 1) := by decide +kernel
theorem dX3_risc_74 : decode cX3_risc 74 = .ok (.istore 4, 2) := by decide +kernel
theorem dX3_risc_76 : decode cX3_risc 76 = .ok (.aload_n 0, 1) := by decide +kernel
theorem dX3_risc_77 : decode cX3_risc 77 = .ok (.iload 4, 2) := by decide +kernel
theorem dX3_risc_79 : decode cX3_risc 79 = .ok (.aload_n 0, 1) := by decide +kernel
theorem dX3_risc_80 : decode cX3_risc 80 = .ok (.iload_n 1, 1) := by decide +kernel
theorem dX3_risc_81 : decode cX3_risc 81 = .ok (.invokevirtual 92, 3) := by decide +kernel
theorem dX3_risc_84 : decode cX3_risc 84 = .ok (.invokevirtual 96, 3) := by decide +kernel
theorem dX3_risc_87 : decode cX3_risc 87 = .ok (.istore 4, 2) := by decide +kernel
theorem dX3_risc_89 : decode cX3_risc 89 = .ok (.aload_n 0, 1) := by decide +kernel
theorem dX3_risc_90 : decode cX3_risc 90 = .ok (.iload_n 1, 1) := by decide +kernel
theorem dX3_risc_91 : decode cX3_risc 91 = .ok (.iconst 0, 1) := by decide +kernel
theorem dX3_risc_92 : decode cX3_risc 92 = .ok (.iload_n 2, 1) := by decide +kernel
theorem dX3_risc_93 : decode cX3_risc 93 = .ok (.sipush 4095, 3) := by decide +kernel
theorem dX3_risc_96 : decode cX3_risc 96 = .ok (.iand, 1) := by decide +kernel
theorem dX3_risc_97 : decode cX3_risc 97 = .ok (.iload 4, 2) := by decide +kernel
theorem dX3_risc_99 : decode cX3_risc 99 = .ok (.bipush 20, 2) := by decide +kernel
theorem dX3_risc_101 : decode cX3_risc 101 = .ok (.ishr, 1) := by decide +kernel
theorem dX3_risc_102 : decode cX3_risc 102 = .ok (.iconst 1, 1) := by decide +kernel
theorem dX3_risc_103 : decode cX3_risc 103 = .ok (.iand, 1) := by decide +kernel
theorem dX3_risc_104 : decode cX3_risc 104 = .ok (.bipush 31, 2) := by decide +kernel
theorem dX3_risc_106 : decode cX3_risc 106 = .ok (.ishl, 1) := by decide +kernel
theorem dX3_risc_107 : decode cX3_risc 107 = .ok (.ior, 1) := by decide +kernel
theorem dX3_risc_108 : decode cX3_risc 108 = .ok (.iload 4, 2) := by decide +kernel
theorem dX3_risc_110 : decode cX3_risc 110 = .ok (.iconst 1, 1) := by decide +kernel
theorem dX3_risc_111 : decode cX3_risc 111 = .ok (.ishr, 1) := by decide +kernel
theorem dX3_risc_112 : decode cX3_risc 112 = .ok (.sipush 1023, 3) := by decide +kernel
theorem dX3_risc_115 : decode cX3_risc 115 = .ok (.iand, 1) := by decide +kernel
theorem dX3_risc_116 : decode cX3_risc 116 = .ok (.bipush 21, 2) := by decide +kernel
theorem dX3_risc_118 : decode cX3_risc 118 = .ok (.ishl, 1) := by decide +kernel
theorem dX3_risc_119 : decode cX3_risc 119 = .ok (.ior, 1) := by decide +kernel
theorem dX3_risc_120 : decode cX3_risc 120 = .ok (.iload 4, 2) := by decide +kernel
theorem dX3_risc_122 : decode cX3_risc 122 = .ok (.bipush 11, 2) := by decide +kernel
theorem dX3_risc_124 : decode cX3_risc 124 = .ok (.ishr, 1) := by decide +kernel
theorem dX3_risc_125 : decode cX3_risc 125 = .ok (.iconst 1, 1) := by decide +kernel
theorem dX3_risc_126 : decode cX3_risc 126 = .ok (.iand, 1) := by decide +kernel
theorem dX3_risc_127 : decode cX3_risc 127 = .ok (.bipush 20, 2) := by decide +kernel
theorem dX3_risc_129 : decode cX3_risc 129 = .ok (.ishl, 1) := by decide +kernel
theorem dX3_risc_130 : decode cX3_risc 130 = .ok (.ior, 1) := by decide +kernel
theorem dX3_risc_131 : decode cX3_risc 131 = .ok (.iload 4, 2) := by decide +kernel
theorem dX3_risc_133 : decode cX3_risc 133 = .ok (.bipush 12, 2) := by decide +kernel
theorem dX3_risc_135 : decode cX3_risc 135 = .ok (.ishr, 1) := by decide +kernel
theorem dX3_risc_136 : decode cX3_risc 136 = .ok (.sipush 255, 3) := by decide +kernel
theorem dX3_risc_139 : decode cX3_risc 139 = .ok (.iand, 1) := by decide +kernel
theorem dX3_risc_140 : decode cX3_risc 140 = .ok (.bipush 12, 2) := by decide +kernel
theorem dX3_risc_142 : decode cX3_risc 142 = .ok (.ishl, 1) := by decide +kernel
theorem dX3_risc_143 : decode cX3_risc 143 = .ok (.ior, 1) := by decide +kernel
theorem dX3_risc_144 : decode cX3_risc 144 = .ok (.invokevirtual 112, 3) := by decide +kernel
theorem dX3_risc_147 : decode cX3_risc 147 = .ok (.aload_n 0, 1) := by decide +kernel
theorem dX3_risc_148 : decode cX3_risc 148 = .ok (.getfield 32, 3) := by decide +kernel
theorem dX3_risc_151 : decode cX3_risc 151 = .ok (.iload_n 1, 1) := by decide +kernel
theorem dX3_risc_152 : decode cX3_risc 152 = .ok (.dup2, 1) := by decide +kernel
theorem dX3_risc_153 : decode cX3_risc 153 = .ok (.iaload, 1) := by decide +kernel
theorem dX3_risc_154 : decode cX3_risc 154 = .ok (.iconst 1, 1) := by decide +kernel
theorem dX3_risc_155 : decode cX3_risc 155 = .ok (.iadd, 1) := by decide +kernel
theorem dX3_risc_156 : decode cX3_risc 156 = .ok (.iastore, 1) := by decide +kernel
theorem dX3_risc_157 : decode cX3_risc 157 = .ok (.aload_n 0, 1) := by decide +kernel
theorem dX3_risc_158 : decode cX3_risc 158 = .ok (.iload_n 1, 1) := by decide +kernel
theorem dX3_risc_159 : decode cX3_risc 159 = .ok (.iconst 4, 1) := by decide +kernel
theorem dX3_risc_160 : decode cX3_risc 160 = .ok (.invokevirtual 88, 3) := by decide +kernel
theorem dX3_risc_163 : decode cX3_risc 163 = .ok (.goto 142, 3) := by decide +kernel
theorem dX3_risc_166 : decode cX3_risc 166 = .ok (.iload_n 2, 1) := by decide +kernel
theorem dX3_risc_167 : decode cX3_risc 167 = .ok (.bipush 127, 2) := by decide +kernel
theorem dX3_risc_169 : decode cX3_risc 169 = .ok (.iand, 1) := by decide +kernel
theorem dX3_risc_170 : decode cX3_risc 170 = .ok (.bipush 23, 2) := by decide +kernel
theorem dX3_risc_172 : decode cX3_risc 172 = .ok (.if_icmp .ne 127, 3) := by decide +kernel
theorem dX3_risc_175 : decode cX3_risc 175 = .ok (.iload_n 3, 1) := by decide +kernel
theorem dX3_risc_176 : decode cX3_risc 176 = .ok (.ifCond .eq 123, 3) := by decide +kernel
theorem dX3_risc_179 : decode cX3_risc 179 = .ok (.aload_n 0, 1) := by decide +kernel
theorem dX3_risc_180 : decode cX3_risc 180 = .ok (.iload_n 1, 1) := by decide +kernel
theorem dX3_risc_181 : decode cX3_risc 181 = .ok (.iconst 4, 1) := by decide +kernel
theorem dX3_risc_182 : decode cX3_risc 182 = .ok (.invokevirtual 109, 3) := by decide +kernel
theorem dX3_risc_185 : decode cX3_risc 185 = .ok (.istore 4, 2) := by decide +kernel
theorem dX3_risc_187 : decode cX3_risc 187 = .ok (.iload 4, 2) := by decide +kernel
theorem dX3_risc_189 : decode cX3_risc 189 = .ok (.bipush 15, 2) := by decide +kernel
theorem dX3_risc_191 : decode cX3_risc 191 = .ok (.ishr, 1) := by decide +kernel
theorem dX3_risc_192 : decode cX3_risc 192 = .ok (.bipush 31, 2) := by decide +kernel
theorem dX3_risc_194 : decode cX3_risc 194 = .ok (.iand, 1) := by decide +kernel
theorem dX3_risc_195 : decode cX3_risc 195 = .ok (.iload_n 3, 1) := by decide +kernel
theorem dX3_risc_196 : decode cX3_risc 196 = .ok (.if_icmp .ne 93, 3) := by decide +kernel
theorem dX3_risc_199 : decode cX3_risc 199 = .ok (.iload 4, 2) := by decide +kernel
theorem dX3_risc_201 : decode cX3_risc 201 = .ok (.bipush 127, 2) := by decide +kernel
theorem dX3_risc_203 : decode cX3_risc 203 = .ok (.iand, 1) := by decide +kernel
theorem dX3_risc_204 : decode cX3_risc 204 = .ok (.bipush 103, 2) := by decide +kernel
theorem dX3_risc_206 : decode cX3_risc 206 = .ok (.if_icmp .eq 12, 3) := by decide +kernel
theorem dX3_risc_209 : decode cX3_risc 209 = .ok (.iload 4, 2) := by decide +kernel
theorem dX3_risc_211 : decode cX3_risc 211 = .ok (.bipush 127, 2) := by decide +kernel
theorem dX3_risc_213 : decode cX3_risc 213 = .ok (.iand, 1) := by decide +kernel
theorem dX3_risc_214 : decode cX3_risc 214 = .ok (.iconst 3, 1) := by decide +kernel
theorem dX3_risc_215 : decode cX3_risc 215 = .ok (.if_icmp .ne 74, 3) := by decide +kernel
theorem dX3_risc_218 : decode cX3_risc 218 = .ok (.aload_n 0, 1) := by decide +kernel
theorem dX3_risc_219 : decode cX3_risc 219 = .ok (.iload_n 2, 1) := by decide +kernel
theorem dX3_risc_220 : decode cX3_risc 220 = .ok (.sipush (-4096), 3) := by decide +kernel
theorem dX3_risc_223 : decode cX3_risc 223 = .ok (.iand, 1) := by decide +kernel
theorem dX3_risc_224 : decode cX3_risc 224 = .ok (.iload 4, 2) := by decide +kernel
theorem dX3_risc_226 : decode cX3_risc 226 = .ok (.bipush 20, 2) := by decide +kernel
theorem dX3_risc_228 : decode cX3_risc 228 = .ok (.ishr, 1) := by decide +kernel
theorem dX3_risc_229 : decode cX3_risc 229 = .ok (.iadd, 1) := by decide +kernel
theorem dX3_risc_230 : decode cX3_risc 230 = .ok (.aload_n 0, 1) := by decide +kernel
theorem dX3_risc_231 : decode cX3_risc 231 = .ok (.iload_n 1, 1) := by decide +kernel
theorem dX3_risc_232 : decode cX3_risc 232 = .ok (.invokevirtual 92, 3) := by decide +kernel
theorem dX3_risc_235 : decode cX3_risc 235 = .ok (.invokevirtual 96, 3) := by decide +kernel
theorem dX3_risc_238 : decode cX3_risc 238 = .ok (.istore 5, 2) := by decide +kernel
theorem dX3_risc_240 : decode cX3_risc 240 = .ok (.aload_n 0, 1) := by decide +kernel
theorem dX3_risc_241 : decode cX3_risc 241 = .ok (.iload_n 1, 1) := by decide +kernel
theorem dX3_risc_242 : decode cX3_risc 242 = .ok (.iconst 4, 1) := by decide +kernel
theorem dX3_risc_243 : decode cX3_risc 243 = .ok (.iload 4, 2) := by decide +kernel
theorem dX3_risc_245 : decode cX3_risc 245 = .ok (.ldc 115, 2) := by decide +kernel
theorem dX3_risc_247 : decode cX3_risc 247 = .ok (.iand, 1) := by decide +kernel
theorem dX3_risc_248 : decode cX3_risc 248 = .ok (.iload 5, 2) := by decide +kernel
theorem dX3_risc_250 : decode cX3_risc 250 = .ok (.bipush 20, 2) := by decide +kernel
theorem dX3_risc_252 : decode cX3_risc 252 = .ok (.ishl, 1) := by decide +kernel
theorem dX3_risc_253 : decode cX3_risc 253 = .ok (.ior, 1) := by decide +kernel
theorem dX3_risc_254 : decode cX3_risc 254 = .ok (.invokevirtual 112, 3) := by decide +kernel
theorem dX3_risc_257 : decode cX3_risc 257 = .ok (.aload_n 0, 1) := by decide +kernel
theorem dX3_risc_258 : decode cX3_risc 258 = .ok (.iload_n 1, 1) := by decide +kernel
theorem dX3_risc_259 : decode cX3_risc 259 = .ok (.iconst 0, 1) := by decide +kernel
theorem dX3_risc_260 : decode cX3_risc 260 = .ok (.iload_n 2, 1) := by decide +kernel
theorem dX3_risc_261 : decode cX3_risc 261 = .ok (.sipush 4095, 3) := by decide +kernel
theorem dX3_risc_264 : decode cX3_risc 264 = .ok (.iand, 1) := by decide +kernel
theorem dX3_risc_265 : decode cX3_risc 265 = .ok (.iload 5, 2) := by decide +kernel
theorem dX3_risc_267 : decode cX3_risc 267 = .ok (.sipush 2048, 3) := by decide +kernel
theorem dX3_risc_270 : decode cX3_risc 270 = .ok (.iadd, 1) := by decide +kernel
theorem dX3_risc_271 : decode cX3_risc 271 = .ok (.sipush (-4096), 3) := by decide +kernel
theorem dX3_risc_274 : decode cX3_risc 274 = .ok (.iand, 1) := by decide +kernel
theorem dX3_risc_275 : decode cX3_risc 275 = .ok (.ior, 1) := by decide +kernel
theorem dX3_risc_276 : decode cX3_risc 276 = .ok (.invokevirtual 112, 3) := by decide +kernel
theorem dX3_risc_279 : decode cX3_risc 279 = .ok (.aload_n 0, 1) := by decide +kernel
theorem dX3_risc_280 : decode cX3_risc 280 = .ok (.getfield 32, 3) := by decide +kernel
theorem dX3_risc_283 : decode cX3_risc 283 = .ok (.iload_n 1, 1) := by decide +kernel
theorem dX3_risc_284 : decode cX3_risc 284 = .ok (.dup2, 1) := by decide +kernel
theorem dX3_risc_285 : decode cX3_risc 285 = .ok (.iaload, 1) := by decide +kernel
theorem dX3_risc_286 : decode cX3_risc 286 = .ok (.iconst 1, 1) := by decide +kernel
theorem dX3_risc_287 : decode cX3_risc 287 = .ok (.iadd, 1) := by decide +kernel
theorem dX3_risc_288 : decode cX3_risc 288 = .ok (.iastore, 1) := by decide +kernel
theorem dX3_risc_289 : decode cX3_risc 289 = .ok (.aload_n 0, 1) := by decide +kernel
theorem dX3_risc_290 : decode cX3_risc 290 = .ok (.iload_n 1, 1) := by decide +kernel
theorem dX3_risc_291 : decode cX3_risc 291 = .ok (.bipush 8, 2) := by decide +kernel
theorem dX3_risc_293 : decode cX3_risc 293 = .ok (.invokevirtual 88, 3) := by decide +kernel
theorem dX3_risc_296 : decode cX3_risc 296 = .ok (.goto 9, 3) := by decide +kernel
theorem dX3_risc_299 : decode cX3_risc 299 = .ok (.aload_n 0, 1) := by decide +kernel
theorem dX3_risc_300 : decode cX3_risc 300 = .ok (.iload_n 1, 1) := by decide +kernel
theorem dX3_risc_301 : decode cX3_risc 301 = .ok (.iconst 2, 1) := by decide +kernel
theorem dX3_risc_302 : decode cX3_risc 302 = .ok (.invokevirtual 88, 3) := by decide +kernel
theorem dX3_risc_305 : decode cX3_risc 305 = .ok (.return_, 1) := by decide +kernel
theorem dX3_isEnd_0 : decode cX3_isEnd 0 = .ok (.iload_n 0, 1) := by decide +kernel
theorem dX3_isEnd_1 : decode cX3_isEnd 1 = .ok (.ifCond .eq 10, 3) := by decide +kernel
theorem dX3_isEnd_4 : decode cX3_isEnd 4 = .ok (.iload_n 0, 1) := by decide +kernel
theorem dX3_isEnd_5 : decode cX3_isEnd 5 = .ok (.sipush 255, 3) := by decide +kernel
theorem dX3_isEnd_8 : decode cX3_isEnd 8 = .ok (.if_icmp .ne 7, 3) := by decide +kernel
theorem dX3_isEnd_11 : decode cX3_isEnd 11 = .ok (.iconst 1, 1) := by decide +kernel
theorem dX3_isEnd_12 : decode cX3_isEnd 12 = .ok (.goto 4, 3) := by decide +kernel
theorem dX3_isEnd_15 : decode cX3_isEnd 15 = .ok (.iconst 0, 1) := by decide +kernel
theorem dX3_isEnd_16 : decode cX3_isEnd 16 = .ok (.ireturn, 1) := by decide +kernel
set_option maxRecDepth 20000 in
theorem ggX3_jump_X3_at : GoodIn wsX3_jump wsX3_at := goodIn_r _ [8, 9, 39, 40, 41, 42, 43, 44, 45, 46, 47, 48, 49, 50, 51, 52, 53, 54, 55, 56, 57, 58] (by decide +kernel) (by decide +kernel)
set_option maxRecDepth 20000 in
theorem gX3_jump_X3_at : GoodIn wsX3_jump (wsV RX3 77 RX3 yX3_at wsX3_at) := goodIn_app (goodIn_of _ (by decide +kernel)) ggX3_jump_X3_at
set_option maxRecDepth 20000 in
theorem ggX3_jump_X3_give : GoodIn wsX3_jump wsX3_give := goodIn_r _ [13, 14, 15, 16, 17, 4, 5, 6, 7, 8, 9, 18, 19, 20, 21, 39, 40, 41, 42, 43, 44, 45, 46, 47, 48, 49, 50, 51, 52, 53, 54, 55, 56, 57, 58] (by decide +kernel) (by decide +kernel)
set_option maxRecDepth 20000 in
theorem gX3_jump_X3_give : GoodIn wsX3_jump (wsV RX3 88 RX3 yX3_give wsX3_give) := goodIn_app (goodIn_of _ (by decide +kernel)) ggX3_jump_X3_give
set_option maxRecDepth 20000 in
theorem ggX3_jump_X3_place : GoodIn wsX3_jump wsX3_place := goodIn_r _ [25, 26, 17, 39, 40, 41, 42, 43, 44, 45, 46, 47, 48, 49, 50, 51, 52, 53, 54, 55, 56, 57, 58] (by decide +kernel) (by decide +kernel)
set_option maxRecDepth 20000 in
theorem gX3_jump_X3_place : GoodIn wsX3_jump (wsV RX3 92 RX3 yX3_place wsX3_place) := goodIn_app (goodIn_of _ (by decide +kernel)) ggX3_jump_X3_place
set_option maxRecDepth 20000 in
theorem ggX3_jump_X3_isEnd : GoodIn wsX3_jump wsX3_isEnd := goodIn_r _ [29] (by decide +kernel) (by decide +kernel)
set_option maxRecDepth 20000 in
theorem gX3_jump_X3_isEnd : GoodIn wsX3_jump (va_wsS RX3 116 yX3_isEnd wsX3_isEnd) := goodIn_app (goodIn_of _ (by decide +kernel)) ggX3_jump_X3_isEnd
set_option maxRecDepth 20000 in
theorem ggX3_jump_X3_low : GoodIn wsX3_jump wsX3_low := goodIn_r _ [33, 4, 5, 6, 7, 8, 9, 39, 40, 41, 42, 43, 44, 45, 46, 47, 48, 49, 50, 51, 52, 53, 54, 55, 56, 57, 58] (by decide +kernel) (by decide +kernel)
set_option maxRecDepth 20000 in
theorem gX3_jump_X3_low : GoodIn wsX3_jump (wsV RX3 109 RX3 yX3_low wsX3_low) := goodIn_app (goodIn_of _ (by decide +kernel)) ggX3_jump_X3_low
set_option maxRecDepth 20000 in
theorem ggX3_jump_X3_moved : GoodIn wsX3_jump wsX3_moved := goodIn_r _ [37, 38, 39, 40, 41, 42, 43, 44, 45, 46, 47, 48, 49, 50, 51, 52, 53, 54, 55, 56, 57, 58] (by decide +kernel) (by decide +kernel)
set_option maxRecDepth 20000 in
theorem gX3_jump_X3_moved : GoodIn wsX3_jump (wsV RX3 96 RX3 yX3_moved wsX3_moved) := goodIn_app (goodIn_of _ (by decide +kernel)) ggX3_jump_X3_moved
set_option maxRecDepth 20000 in
theorem ggX3_jump_X3_change : GoodIn wsX3_jump wsX3_change := goodIn_r _ [21, 9, 39, 40, 41, 42, 43, 44, 45, 46, 47, 48, 49, 50, 51, 52, 53, 54, 55, 56, 57, 58] (by decide +kernel) (by decide +kernel)
set_option maxRecDepth 20000 in
theorem gX3_jump_X3_change : GoodIn wsX3_jump (wsV RX3 81 RX3 yX3_change wsX3_change) := goodIn_app (goodIn_of _ (by decide +kernel)) ggX3_jump_X3_change
theorem dX3_jump_0 : decode cX3_jump 0 = .ok (.aload_n 0, 1) := by decide +kernel
theorem dX3_jump_1 : decode cX3_jump 1 = .ok (.iload_n 1, 1) := by decide +kernel
theorem dX3_jump_2 : decode cX3_jump 2 = .ok (.iconst 0, 1) := by decide +kernel
theorem dX3_jump_3 : decode cX3_jump 3 = .ok (.invokevirtual 77, 3) := by decide +kernel
theorem dX3_jump_6 : decode cX3_jump 6 = .ok (.sipush 232, 3) := by decide +kernel
theorem dX3_jump_9 : decode cX3_jump 9 = .ok (.if_icmp .eq 22, 3) := by decide +kernel
theorem dX3_jump_12 : decode cX3_jump 12 = .ok (.aload_n 0, 1) := by decide +kernel
theorem dX3_jump_13 : decode cX3_jump 13 = .ok (.iload_n 1, 1) := by decide +kernel
theorem dX3_jump_14 : decode cX3_jump 14 = .ok (.iconst 0, 1) := by decide +kernel
theorem dX3_jump_15 : decode cX3_jump 15 = .ok (.invokevirtual 77, 3) := by decide +kernel
theorem dX3_jump_18 : decode cX3_jump 18 = .ok (.sipush 233, 3) := by decide +kernel
theorem dX3_jump_21 : decode cX3_jump 21 = .ok (.if_icmp .eq 10, 3) := by decide +kernel
theorem dX3_jump_24 : decode cX3_jump 24 = .ok (.aload_n 0, 1) := by decide +kernel
theorem dX3_jump_25 : decode cX3_jump 25 = .ok (.iload_n 1, 1) := by decide +kernel
theorem dX3_jump_26 : decode cX3_jump 26 = .ok (.iconst 1, 1) := by decide +kernel
theorem dX3_jump_27 : decode cX3_jump 27 = .ok (.invokevirtual 88, 3) := by decide +kernel
theorem dX3_jump_30 : decode cX3_jump 30 = .ok (.return_, 1) := by decide +kernel
theorem dX3_jump_31 : decode cX3_jump 31 = .ok (.aload_n 0, 1) := by decide +kernel
theorem dX3_jump_32 : decode cX3_jump 32 = .ok (.iload_n 1, 1) := by decide +kernel
theorem dX3_jump_33 : decode cX3_jump 33 = .ok (.invokevirtual 92, 3) := by decide +kernel
theorem dX3_jump_36 : decode cX3_jump 36 = .ok (.istore_n 2, 1) := by decide +kernel
theorem dX3_jump_37 : decode cX3_jump 37 = .ok (.iload_n 2, 1) := by decide +kernel
theorem dX3_jump_38 : decode cX3_jump 38 = .ok (.aload_n 0, 1) := by decide +kernel
theorem dX3_jump_39 : decode cX3_jump 39 = .ok (.getfield 38, 3) := by decide +kernel
theorem dX3_jump_42 : decode cX3_jump 42 = .ok (.iload_n 1, 1) := by decide +kernel
theorem dX3_jump_43 : decode cX3_jump 43 = .ok (.iaload, 1) := by decide +kernel
theorem dX3_jump_44 : decode cX3_jump 44 = .ok (.isub, 1) := by decide +kernel
theorem dX3_jump_45 : decode cX3_jump 45 = .ok (.istore_n 3, 1) := by decide +kernel
theorem dX3_jump_46 : decode cX3_jump 46 = .ok (.aload_n 0, 1) := by decide +kernel
theorem dX3_jump_47 : decode cX3_jump 47 = .ok (.getfield 38, 3) := by decide +kernel
theorem dX3_jump_50 : decode cX3_jump 50 = .ok (.iload_n 1, 1) := by decide +kernel
theorem dX3_jump_51 : decode cX3_jump 51 = .ok (.iload_n 2, 1) := by decide +kernel
theorem dX3_jump_52 : decode cX3_jump 52 = .ok (.iastore, 1) := by decide +kernel
theorem dX3_jump_53 : decode cX3_jump 53 = .ok (.iload_n 3, 1) := by decide +kernel
theorem dX3_jump_54 : decode cX3_jump 54 = .ok (.ifCond .lt 8, 3) := by decide +kernel
theorem dX3_jump_57 : decode cX3_jump 57 = .ok (.iload_n 3, 1) := by decide +kernel
theorem dX3_jump_58 : decode cX3_jump 58 = .ok (.iconst 5, 1) := by decide +kernel
theorem dX3_jump_59 : decode cX3_jump 59 = .ok (.if_icmp .le 13, 3) := by decide +kernel
theorem dX3_jump_62 : decode cX3_jump 62 = .ok (.aload_n 0, 1) := by decide +kernel
theorem dX3_jump_63 : decode cX3_jump 63 = .ok (.getfield 35, 3) := by decide +kernel
theorem dX3_jump_66 : decode cX3_jump 66 = .ok (.iload_n 1, 1) := by decide +kernel
theorem dX3_jump_67 : decode cX3_jump 67 = .ok (.iconst 0, 1) := by decide +kernel
theorem dX3_jump_68 : decode cX3_jump 68 = .ok (.iastore, 1) := by decide +kernel
theorem dX3_jump_69 : decode cX3_jump 69 = .ok (.goto 35, 3) := by decide +kernel
theorem dX3_jump_72 : decode cX3_jump 72 = .ok (.iconst 0, 1) := by decide +kernel
theorem dX3_jump_73 : decode cX3_jump 73 = .ok (.istore 4, 2) := by decide +kernel
theorem dX3_jump_75 : decode cX3_jump 75 = .ok (.iload 4, 2) := by decide +kernel
theorem dX3_jump_77 : decode cX3_jump 77 = .ok (.iload_n 3, 1) := by decide +kernel
theorem dX3_jump_78 : decode cX3_jump 78 = .ok (.if_icmp .ge 26, 3) := by decide +kernel
theorem dX3_jump_81 : decode cX3_jump 81 = .ok (.aload_n 0, 1) := by decide +kernel
theorem dX3_jump_82 : decode cX3_jump 82 = .ok (.getfield 35, 3) := by decide +kernel
theorem dX3_jump_85 : decode cX3_jump 85 = .ok (.iload_n 1, 1) := by decide +kernel
theorem dX3_jump_86 : decode cX3_jump 86 = .ok (.aload_n 0, 1) := by decide +kernel
theorem dX3_jump_87 : decode cX3_jump 87 = .ok (.getfield 35, 3) := by decide +kernel
theorem dX3_jump_90 : decode cX3_jump 90 = .ok (.iload_n 1, 1) := by decide +kernel
theorem dX3_jump_91 : decode cX3_jump 91 = .ok (.iaload, 1) := by decide +kernel
theorem dX3_jump_92 : decode cX3_jump 92 = .ok (.bipush 119, 2) := by decide +kernel
theorem dX3_jump_94 : decode cX3_jump 94 = .ok (.iand, 1) := by decide +kernel
theorem dX3_jump_95 : decode cX3_jump 95 = .ok (.iconst 1, 1) := by decide +kernel
theorem dX3_jump_96 : decode cX3_jump 96 = .ok (.ishl, 1) := by decide +kernel
theorem dX3_jump_97 : decode cX3_jump 97 = .ok (.iastore, 1) := by decide +kernel
theorem dX3_jump_98 : decode cX3_jump 98 = .ok (.iinc 4 1, 3) := by decide +kernel
theorem dX3_jump_101 : decode cX3_jump 101 = .ok (.goto (-26), 3) := by decide +kernel
theorem dX3_jump_104 : decode cX3_jump 104 = .ok (.aload_n 0, 1) := by decide +kernel
theorem dX3_jump_105 : decode cX3_jump 105 = .ok (.getfield 35, 3) := by decide +kernel
theorem dX3_jump_108 : decode cX3_jump 108 = .ok (.iload_n 1, 1) := by decide +kernel
theorem dX3_jump_109 : decode cX3_jump 109 = .ok (.iaload, 1) := by decide +kernel
theorem dX3_jump_110 : decode cX3_jump 110 = .ok (.iconst 1, 1) := by decide +kernel
theorem dX3_jump_111 : decode cX3_jump 111 = .ok (.ishr, 1) := by decide +kernel
theorem dX3_jump_112 : decode cX3_jump 112 = .ok (.istore 4, 2) := by decide +kernel
theorem dX3_jump_114 : decode cX3_jump 114 = .ok (.iload 4, 2) := by decide +kernel
theorem dX3_jump_116 : decode cX3_jump 116 = .ok (.bipush 7, 2) := by decide +kernel
theorem dX3_jump_118 : decode cX3_jump 118 = .ok (.iand, 1) := by decide +kernel
theorem dX3_jump_119 : decode cX3_jump 119 = .ok (.istore 5, 2) := by decide +kernel
theorem dX3_jump_121 : decode cX3_jump 121 = .ok (.aload_n 0, 1) := by decide +kernel
theorem dX3_jump_122 : decode cX3_jump 122 = .ok (.iload_n 1, 1) := by decide +kernel
theorem dX3_jump_123 : decode cX3_jump 123 = .ok (.iconst 4, 1) := by decide +kernel
end
section
theorem dX3_jump_124 : decode cX3_jump 124 = .ok (.invokevirtual 77, 3) := by decide +kernel
theorem dX3_jump_127 : decode cX3_jump 127 = .ok (.invokestatic 116, 3) := by decide +kernel
theorem dX3_jump_130 : decode cX3_jump 130 = .ok (.ifCond .eq 255, 3) := by decide +kernel
theorem dX3_jump_133 : decode cX3_jump 133 = .ok (.iload 4, 2) := by decide +kernel
theorem dX3_jump_135 : decode cX3_jump 135 = .ok (.bipush 16, 2) := by decide +kernel
theorem dX3_jump_137 : decode cX3_jump 137 = .ok (.if_icmp .ge 248, 3) := by decide +kernel
theorem dX3_jump_140 : decode cX3_jump 140 = .ok (.iload 5, 2) := by decide +kernel
theorem dX3_jump_142 : decode cX3_jump 142 = .ok (.ifCond .eq 21, 3) := by decide +kernel
theorem dX3_jump_145 : decode cX3_jump 145 = .ok (.iload 5, 2) := by decide +kernel
theorem dX3_jump_147 : decode cX3_jump 147 = .ok (.iconst 1, 1) := by decide +kernel
theorem dX3_jump_148 : decode cX3_jump 148 = .ok (.if_icmp .eq 15, 3) := by decide +kernel
theorem dX3_jump_151 : decode cX3_jump 151 = .ok (.iload 5, 2) := by decide +kernel
theorem dX3_jump_153 : decode cX3_jump 153 = .ok (.iconst 2, 1) := by decide +kernel
theorem dX3_jump_154 : decode cX3_jump 154 = .ok (.if_icmp .eq 9, 3) := by decide +kernel
theorem dX3_jump_157 : decode cX3_jump 157 = .ok (.iload 5, 2) := by decide +kernel
theorem dX3_jump_159 : decode cX3_jump 159 = .ok (.iconst 4, 1) := by decide +kernel
theorem dX3_jump_160 : decode cX3_jump 160 = .ok (.if_icmp .ne 225, 3) := by decide +kernel
theorem dX3_jump_163 : decode cX3_jump 163 = .ok (.aload_n 0, 1) := by decide +kernel
theorem dX3_jump_164 : decode cX3_jump 164 = .ok (.iload_n 1, 1) := by decide +kernel
theorem dX3_jump_165 : decode cX3_jump 165 = .ok (.iconst 1, 1) := by decide +kernel
theorem dX3_jump_166 : decode cX3_jump 166 = .ok (.invokevirtual 109, 3) := by decide +kernel
theorem dX3_jump_169 : decode cX3_jump 169 = .ok (.istore 6, 2) := by decide +kernel
theorem dX3_jump_171 : decode cX3_jump 171 = .ok (.aload_n 0, 1) := by decide +kernel
theorem dX3_jump_172 : decode cX3_jump 172 = .ok (.iload 6, 2) := by decide +kernel
theorem dX3_jump_174 : decode cX3_jump 174 = .ok (.iload_n 2, 1) := by decide +kernel
theorem dX3_jump_175 : decode cX3_jump 175 = .ok (.iconst 5, 1) := by decide +kernel
theorem dX3_jump_176 : decode cX3_jump 176 = .ok (.iadd, 1) := by decide +kernel
theorem dX3_jump_177 : decode cX3_jump 177 = .ok (.invokevirtual 96, 3) := by decide +kernel
theorem dX3_jump_180 : decode cX3_jump 180 = .ok (.istore 7, 2) := by decide +kernel
theorem dX3_jump_182 : decode cX3_jump 182 = .ok (.aload_n 0, 1) := by decide +kernel
theorem dX3_jump_183 : decode cX3_jump 183 = .ok (.getfield 35, 3) := by decide +kernel
theorem dX3_jump_186 : decode cX3_jump 186 = .ok (.iload_n 1, 1) := by decide +kernel
theorem dX3_jump_187 : decode cX3_jump 187 = .ok (.iaload, 1) := by decide +kernel
theorem dX3_jump_188 : decode cX3_jump 188 = .ok (.ifCond .eq 7, 3) := by decide +kernel
theorem dX3_jump_191 : decode cX3_jump 191 = .ok (.iconst 1, 1) := by decide +kernel
theorem dX3_jump_192 : decode cX3_jump 192 = .ok (.goto 4, 3) := by decide +kernel
theorem dX3_jump_195 : decode cX3_jump 195 = .ok (.iconst 0, 1) := by decide +kernel
theorem dX3_jump_196 : decode cX3_jump 196 = .ok (.istore 8, 2) := by decide +kernel
theorem dX3_jump_198 : decode cX3_jump 198 = .ok (.iload 8, 2) := by decide +kernel
theorem dX3_jump_200 : decode cX3_jump 200 = .ok (.ifCond .eq 107, 3) := by decide +kernel
theorem dX3_jump_203 : decode cX3_jump 203 = .ok (.iload 4, 2) := by decide +kernel
theorem dX3_jump_205 : decode cX3_jump 205 = .ok (.iconst 1, 1) := by decide +kernel
theorem dX3_jump_206 : decode cX3_jump 206 = .ok (.if_icmp .ne 7, 3) := by decide +kernel
theorem dX3_jump_209 : decode cX3_jump 209 = .ok (.iconst 1, 1) := by decide +kernel
theorem dX3_jump_210 : decode cX3_jump 210 = .ok (.goto 30, 3) := by decide +kernel
theorem dX3_jump_213 : decode cX3_jump 213 = .ok (.iload 4, 2) := by decide +kernel
theorem dX3_jump_215 : decode cX3_jump 215 = .ok (.iconst 4, 1) := by decide +kernel
theorem dX3_jump_216 : decode cX3_jump 216 = .ok (.if_icmp .ne 7, 3) := by decide +kernel
theorem dX3_jump_219 : decode cX3_jump 219 = .ok (.iconst 3, 1) := by decide +kernel
theorem dX3_jump_220 : decode cX3_jump 220 = .ok (.goto 20, 3) := by decide +kernel
theorem dX3_jump_223 : decode cX3_jump 223 = .ok (.iload 4, 2) := by decide +kernel
theorem dX3_jump_225 : decode cX3_jump 225 = .ok (.iconst 2, 1) := by decide +kernel
theorem dX3_jump_226 : decode cX3_jump 226 = .ok (.if_icmp .eq 9, 3) := by decide +kernel
theorem dX3_jump_229 : decode cX3_jump 229 = .ok (.iload 4, 2) := by decide +kernel
theorem dX3_jump_231 : decode cX3_jump 231 = .ok (.iconst 3, 1) := by decide +kernel
theorem dX3_jump_232 : decode cX3_jump 232 = .ok (.if_icmp .ne 7, 3) := by decide +kernel
theorem dX3_jump_235 : decode cX3_jump 235 = .ok (.iconst 2, 1) := by decide +kernel
theorem dX3_jump_236 : decode cX3_jump 236 = .ok (.goto 4, 3) := by decide +kernel
theorem dX3_jump_239 : decode cX3_jump 239 = .ok (.iconst 0, 1) := by decide +kernel
theorem dX3_jump_240 : decode cX3_jump 240 = .ok (.istore 9, 2) := by decide +kernel
theorem dX3_jump_242 : decode cX3_jump 242 = .ok (.iload 7, 2) := by decide +kernel
theorem dX3_jump_244 : decode cX3_jump 244 = .ok (.bipush 24, 2) := by decide +kernel
theorem dX3_jump_246 : decode cX3_jump 246 = .ok (.bipush 8, 2) := by decide +kernel
theorem dX3_jump_248 : decode cX3_jump 248 = .ok (.iload 9, 2) := by decide +kernel
theorem dX3_jump_250 : decode cX3_jump 250 = .ok (.imul, 1) := by decide +kernel
theorem dX3_jump_251 : decode cX3_jump 251 = .ok (.isub, 1) := by decide +kernel
theorem dX3_jump_252 : decode cX3_jump 252 = .ok (.ishr, 1) := by decide +kernel
theorem dX3_jump_253 : decode cX3_jump 253 = .ok (.sipush 255, 3) := by decide +kernel
theorem dX3_jump_256 : decode cX3_jump 256 = .ok (.iand, 1) := by decide +kernel
theorem dX3_jump_257 : decode cX3_jump 257 = .ok (.invokestatic 116, 3) := by decide +kernel
theorem dX3_jump_260 : decode cX3_jump 260 = .ok (.istore 8, 2) := by decide +kernel
theorem dX3_jump_262 : decode cX3_jump 262 = .ok (.iload 8, 2) := by decide +kernel
theorem dX3_jump_264 : decode cX3_jump 264 = .ok (.ifCond .eq 40, 3) := by decide +kernel
theorem dX3_jump_267 : decode cX3_jump 267 = .ok (.iload 7, 2) := by decide +kernel
theorem dX3_jump_269 : decode cX3_jump 269 = .ok (.iload 9, 2) := by decide +kernel
theorem dX3_jump_271 : decode cX3_jump 271 = .ok (.ifCond .ne 7, 3) := by decide +kernel
theorem dX3_jump_274 : decode cX3_jump 274 = .ok (.iconst (-1), 1) := by decide +kernel
theorem dX3_jump_275 : decode cX3_jump 275 = .ok (.goto 15, 3) := by decide +kernel
theorem dX3_jump_278 : decode cX3_jump 278 = .ok (.iconst 1, 1) := by decide +kernel
theorem dX3_jump_279 : decode cX3_jump 279 = .ok (.bipush 32, 2) := by decide +kernel
theorem dX3_jump_281 : decode cX3_jump 281 = .ok (.bipush 8, 2) := by decide +kernel
theorem dX3_jump_283 : decode cX3_jump 283 = .ok (.iload 9, 2) := by decide +kernel
theorem dX3_jump_285 : decode cX3_jump 285 = .ok (.imul, 1) := by decide +kernel
theorem dX3_jump_286 : decode cX3_jump 286 = .ok (.isub, 1) := by decide +kernel
theorem dX3_jump_287 : decode cX3_jump 287 = .ok (.ishl, 1) := by decide +kernel
theorem dX3_jump_288 : decode cX3_jump 288 = .ok (.iconst 1, 1) := by decide +kernel
theorem dX3_jump_289 : decode cX3_jump 289 = .ok (.isub, 1) := by decide +kernel
theorem dX3_jump_290 : decode cX3_jump 290 = .ok (.ixor, 1) := by decide +kernel
theorem dX3_jump_291 : decode cX3_jump 291 = .ok (.istore 6, 2) := by decide +kernel
theorem dX3_jump_293 : decode cX3_jump 293 = .ok (.aload_n 0, 1) := by decide +kernel
theorem dX3_jump_294 : decode cX3_jump 294 = .ok (.iload 6, 2) := by decide +kernel
theorem dX3_jump_296 : decode cX3_jump 296 = .ok (.iload_n 2, 1) := by decide +kernel
theorem dX3_jump_297 : decode cX3_jump 297 = .ok (.iconst 5, 1) := by decide +kernel
theorem dX3_jump_298 : decode cX3_jump 298 = .ok (.iadd, 1) := by decide +kernel
theorem dX3_jump_299 : decode cX3_jump 299 = .ok (.invokevirtual 96, 3) := by decide +kernel
theorem dX3_jump_302 : decode cX3_jump 302 = .ok (.istore 7, 2) := by decide +kernel
theorem dX3_jump_304 : decode cX3_jump 304 = .ok (.goto (-106), 3) := by decide +kernel
theorem dX3_jump_307 : decode cX3_jump 307 = .ok (.aload_n 0, 1) := by decide +kernel
theorem dX3_jump_308 : decode cX3_jump 308 = .ok (.iload_n 1, 1) := by decide +kernel
theorem dX3_jump_309 : decode cX3_jump 309 = .ok (.iconst 1, 1) := by decide +kernel
theorem dX3_jump_310 : decode cX3_jump 310 = .ok (.iload 7, 2) := by decide +kernel
theorem dX3_jump_312 : decode cX3_jump 312 = .ok (.invokevirtual 81, 3) := by decide +kernel
theorem dX3_jump_315 : decode cX3_jump 315 = .ok (.aload_n 0, 1) := by decide +kernel
theorem dX3_jump_316 : decode cX3_jump 316 = .ok (.iload_n 1, 1) := by decide +kernel
theorem dX3_jump_317 : decode cX3_jump 317 = .ok (.iconst 2, 1) := by decide +kernel
theorem dX3_jump_318 : decode cX3_jump 318 = .ok (.iload 7, 2) := by decide +kernel
theorem dX3_jump_320 : decode cX3_jump 320 = .ok (.bipush 8, 2) := by decide +kernel
theorem dX3_jump_322 : decode cX3_jump 322 = .ok (.ishr, 1) := by decide +kernel
theorem dX3_jump_323 : decode cX3_jump 323 = .ok (.invokevirtual 81, 3) := by decide +kernel
theorem dX3_jump_326 : decode cX3_jump 326 = .ok (.aload_n 0, 1) := by decide +kernel
theorem dX3_jump_327 : decode cX3_jump 327 = .ok (.iload_n 1, 1) := by decide +kernel
theorem dX3_jump_328 : decode cX3_jump 328 = .ok (.iconst 3, 1) := by decide +kernel
theorem dX3_jump_329 : decode cX3_jump 329 = .ok (.iload 7, 2) := by decide +kernel
theorem dX3_jump_331 : decode cX3_jump 331 = .ok (.bipush 16, 2) := by decide +kernel
theorem dX3_jump_333 : decode cX3_jump 333 = .ok (.ishr, 1) := by decide +kernel
theorem dX3_jump_334 : decode cX3_jump 334 = .ok (.invokevirtual 81, 3) := by decide +kernel
theorem dX3_jump_337 : decode cX3_jump 337 = .ok (.aload_n 0, 1) := by decide +kernel
theorem dX3_jump_338 : decode cX3_jump 338 = .ok (.iload_n 1, 1) := by decide +kernel
theorem dX3_jump_339 : decode cX3_jump 339 = .ok (.iconst 4, 1) := by decide +kernel
theorem dX3_jump_340 : decode cX3_jump 340 = .ok (.iload 7, 2) := by decide +kernel
theorem dX3_jump_342 : decode cX3_jump 342 = .ok (.bipush 24, 2) := by decide +kernel
theorem dX3_jump_344 : decode cX3_jump 344 = .ok (.ishr, 1) := by decide +kernel
theorem dX3_jump_345 : decode cX3_jump 345 = .ok (.iconst 1, 1) := by decide +kernel
theorem dX3_jump_346 : decode cX3_jump 346 = .ok (.iand, 1) := by decide +kernel
theorem dX3_jump_347 : decode cX3_jump 347 = .ok (.iconst 1, 1) := by decide +kernel
theorem dX3_jump_348 : decode cX3_jump 348 = .ok (.if_icmp .ne 9, 3) := by decide +kernel
theorem dX3_jump_351 : decode cX3_jump 351 = .ok (.sipush 255, 3) := by decide +kernel
theorem dX3_jump_354 : decode cX3_jump 354 = .ok (.goto 4, 3) := by decide +kernel
theorem dX3_jump_357 : decode cX3_jump 357 = .ok (.iconst 0, 1) := by decide +kernel
theorem dX3_jump_358 : decode cX3_jump 358 = .ok (.invokevirtual 81, 3) := by decide +kernel
theorem dX3_jump_361 : decode cX3_jump 361 = .ok (.aload_n 0, 1) := by decide +kernel
theorem dX3_jump_362 : decode cX3_jump 362 = .ok (.getfield 35, 3) := by decide +kernel
theorem dX3_jump_365 : decode cX3_jump 365 = .ok (.iload_n 1, 1) := by decide +kernel
theorem dX3_jump_366 : decode cX3_jump 366 = .ok (.iconst 0, 1) := by decide +kernel
theorem dX3_jump_367 : decode cX3_jump 367 = .ok (.iastore, 1) := by decide +kernel
theorem dX3_jump_368 : decode cX3_jump 368 = .ok (.aload_n 0, 1) := by decide +kernel
theorem dX3_jump_369 : decode cX3_jump 369 = .ok (.getfield 32, 3) := by decide +kernel
theorem dX3_jump_372 : decode cX3_jump 372 = .ok (.iload_n 1, 1) := by decide +kernel
theorem dX3_jump_373 : decode cX3_jump 373 = .ok (.dup2, 1) := by decide +kernel
theorem dX3_jump_374 : decode cX3_jump 374 = .ok (.iaload, 1) := by decide +kernel
theorem dX3_jump_375 : decode cX3_jump 375 = .ok (.iconst 1, 1) := by decide +kernel
theorem dX3_jump_376 : decode cX3_jump 376 = .ok (.iadd, 1) := by decide +kernel
theorem dX3_jump_377 : decode cX3_jump 377 = .ok (.iastore, 1) := by decide +kernel
theorem dX3_jump_378 : decode cX3_jump 378 = .ok (.aload_n 0, 1) := by decide +kernel
theorem dX3_jump_379 : decode cX3_jump 379 = .ok (.iload_n 1, 1) := by decide +kernel
theorem dX3_jump_380 : decode cX3_jump 380 = .ok (.iconst 5, 1) := by decide +kernel
theorem dX3_jump_381 : decode cX3_jump 381 = .ok (.invokevirtual 88, 3) := by decide +kernel
theorem dX3_jump_384 : decode cX3_jump 384 = .ok (.return_, 1) := by decide +kernel
theorem dX3_jump_385 : decode cX3_jump 385 = .ok (.aload_n 0, 1) := by decide +kernel
theorem dX3_jump_386 : decode cX3_jump 386 = .ok (.getfield 35, 3) := by decide +kernel
theorem dX3_jump_389 : decode cX3_jump 389 = .ok (.iload_n 1, 1) := by decide +kernel
theorem dX3_jump_390 : decode cX3_jump 390 = .ok (.aload_n 0, 1) := by decide +kernel
theorem dX3_jump_391 : decode cX3_jump 391 = .ok (.getfield 35, 3) := by decide +kernel
theorem dX3_jump_394 : decode cX3_jump 394 = .ok (.iload_n 1, 1) := by decide +kernel
theorem dX3_jump_395 : decode cX3_jump 395 = .ok (.iaload, 1) := by decide +kernel
theorem dX3_jump_396 : decode cX3_jump 396 = .ok (.iconst 1, 1) := by decide +kernel
theorem dX3_jump_397 : decode cX3_jump 397 = .ok (.ior, 1) := by decide +kernel
theorem dX3_jump_398 : decode cX3_jump 398 = .ok (.aload_n 0, 1) := by decide +kernel
theorem dX3_jump_399 : decode cX3_jump 399 = .ok (.iload_n 1, 1) := by decide +kernel
theorem dX3_jump_400 : decode cX3_jump 400 = .ok (.iconst 4, 1) := by decide +kernel
theorem dX3_jump_401 : decode cX3_jump 401 = .ok (.invokevirtual 77, 3) := by decide +kernel
theorem dX3_jump_404 : decode cX3_jump 404 = .ok (.invokestatic 116, 3) := by decide +kernel
theorem dX3_jump_407 : decode cX3_jump 407 = .ok (.ifCond .eq 8, 3) := by decide +kernel
theorem dX3_jump_410 : decode cX3_jump 410 = .ok (.bipush 16, 2) := by decide +kernel
theorem dX3_jump_412 : decode cX3_jump 412 = .ok (.goto 4, 3) := by decide +kernel
theorem dX3_jump_415 : decode cX3_jump 415 = .ok (.iconst 0, 1) := by decide +kernel
theorem dX3_jump_416 : decode cX3_jump 416 = .ok (.ior, 1) := by decide +kernel
theorem dX3_jump_417 : decode cX3_jump 417 = .ok (.iastore, 1) := by decide +kernel
theorem dX3_jump_418 : decode cX3_jump 418 = .ok (.aload_n 0, 1) := by decide +kernel
theorem dX3_jump_419 : decode cX3_jump 419 = .ok (.iload_n 1, 1) := by decide +kernel
theorem dX3_jump_420 : decode cX3_jump 420 = .ok (.iconst 1, 1) := by decide +kernel
theorem dX3_jump_421 : decode cX3_jump 421 = .ok (.invokevirtual 88, 3) := by decide +kernel
theorem dX3_jump_424 : decode cX3_jump 424 = .ok (.return_, 1) := by decide +kernel
set_option maxRecDepth 20000 in
theorem ggX3_work_X3_give : GoodIn wsX3_work wsX3_give := goodIn_r _ [6, 7, 8, 9, 10, 11, 12, 13, 5, 14, 15, 16, 17, 18, 19, 87, 88, 89, 90, 91, 92, 93, 94, 95, 96, 97, 98, 99, 100, 101, 102, 103, 104, 105, 106] (by decide +kernel) (by decide +kernel)
set_option maxRecDepth 20000 in
theorem gX3_work_X3_give : GoodIn wsX3_work (wsV RX3 88 RX3 yX3_give wsX3_give) := goodIn_app (goodIn_of _ (by decide +kernel)) ggX3_work_X3_give
set_option maxRecDepth 20000 in
theorem ggX3_work_X3_delta : GoodIn wsX3_work wsX3_delta := goodIn_r _ [23, 24, 25, 26, 11, 12, 13, 5, 14, 15, 16, 17, 18, 19, 2, 3, 4, 6, 7, 8, 9, 10, 87, 88, 89, 90, 91, 92, 93, 94, 95, 96, 97, 98, 99, 100, 101, 102, 103, 104, 105, 106] (by decide +kernel) (by decide +kernel)
set_option maxRecDepth 20000 in
theorem gX3_work_X3_delta : GoodIn wsX3_work (wsV RX3 119 RX3 yX3_delta wsX3_delta) := goodIn_app (goodIn_of _ (by decide +kernel)) ggX3_work_X3_delta
set_option maxRecDepth 20000 in
theorem ggX3_work_X3_jump : GoodIn wsX3_work wsX3_jump := goodIn_r _ [30, 31, 32, 33, 11, 12, 13, 5, 14, 15, 2, 3, 4, 6, 7, 8, 9, 10, 16, 17, 18, 19, 34, 35, 36, 37, 38, 39, 40, 41, 42, 43, 44, 45, 46, 47, 48, 49, 26, 87, 88, 89, 90, 91, 92, 93, 94, 95, 96, 97, 98, 99, 100, 101, 102, 103, 104, 105, 106] (by decide +kernel) (by decide +kernel)
set_option maxRecDepth 20000 in
theorem gX3_work_X3_jump : GoodIn wsX3_work (wsV RX3 123 RX3 yX3_jump wsX3_jump) := goodIn_app (goodIn_of _ (by decide +kernel)) ggX3_work_X3_jump
set_option maxRecDepth 20000 in
theorem ggX3_work_X3_arm : GoodIn wsX3_work wsX3_arm := goodIn_r _ [53, 33, 11, 12, 13, 5, 14, 15, 34, 35, 36, 37, 38, 10, 46, 47, 48, 49, 26, 16, 17, 18, 19, 2, 3, 4, 6, 7, 8, 9, 87, 88, 89, 90, 91, 92, 93, 94, 95, 96, 97, 98, 99, 100, 101, 102, 103, 104, 105, 106] (by decide +kernel) (by decide +kernel)
set_option maxRecDepth 20000 in
theorem gX3_work_X3_arm : GoodIn wsX3_work (wsV RX3 126 RX3 yX3_arm wsX3_arm) := goodIn_app (goodIn_of _ (by decide +kernel)) ggX3_work_X3_arm
set_option maxRecDepth 20000 in
theorem ggX3_work_X3_thumb : GoodIn wsX3_work wsX3_thumb := goodIn_r _ [57, 33, 11, 12, 13, 5, 14, 15, 2, 3, 4, 6, 7, 8, 9, 10, 16, 17, 18, 19, 34, 35, 36, 37, 38, 46, 47, 48, 49, 26, 87, 88, 89, 90, 91, 92, 93, 94, 95, 96, 97, 98, 99, 100, 101, 102, 103, 104, 105, 106] (by decide +kernel) (by decide +kernel)
set_option maxRecDepth 20000 in
theorem gX3_work_X3_thumb : GoodIn wsX3_work (wsV RX3 129 RX3 yX3_thumb wsX3_thumb) := goodIn_app (goodIn_of _ (by decide +kernel)) ggX3_work_X3_thumb
set_option maxRecDepth 20000 in
theorem ggX3_work_X3_power : GoodIn wsX3_work wsX3_power := goodIn_r _ [61, 62, 63, 33, 64, 65, 66, 5, 67, 11, 12, 13, 14, 15, 34, 35, 36, 37, 38, 10, 46, 47, 48, 49, 26, 68, 69, 70, 71, 16, 17, 18, 19, 2, 3, 4, 6, 7, 8, 9, 87, 88, 89, 90, 91, 92, 93, 94, 95, 96, 97, 98, 99, 100, 101, 102, 103, 104, 105, 106] (by decide +kernel) (by decide +kernel)
set_option maxRecDepth 20000 in
theorem gX3_work_X3_power : GoodIn wsX3_work (wsV RX3 132 RX3 yX3_power wsX3_power) := goodIn_app (goodIn_of _ (by decide +kernel)) ggX3_work_X3_power
set_option maxRecDepth 20000 in
theorem ggX3_work_X3_sparc : GoodIn wsX3_work wsX3_sparc := goodIn_r _ [75, 76, 77, 33, 11, 12, 13, 5, 14, 15, 64, 65, 66, 67, 34, 35, 36, 37, 38, 10, 46, 47, 48, 49, 26, 68, 69, 70, 71, 16, 17, 18, 19, 2, 3, 4, 6, 7, 8, 9, 87, 88, 89, 90, 91, 92, 93, 94, 95, 96, 97, 98, 99, 100, 101, 102, 103, 104, 105, 106] (by decide +kernel) (by decide +kernel)
set_option maxRecDepth 20000 in
theorem gX3_work_X3_sparc : GoodIn wsX3_work (wsV RX3 135 RX3 yX3_sparc wsX3_sparc) := goodIn_app (goodIn_of _ (by decide +kernel)) ggX3_work_X3_sparc
set_option maxRecDepth 20000 in
theorem ggX3_work_X3_risc : GoodIn wsX3_work wsX3_risc := goodIn_r _ [81, 33, 82, 42, 43, 44, 5, 45, 11, 12, 13, 14, 15, 34, 35, 36, 37, 38, 10, 46, 47, 48, 49, 26, 83, 84, 85, 86, 16, 17, 18, 19, 2, 3, 4, 6, 7, 8, 9, 87, 88, 89, 90, 91, 92, 93, 94, 95, 96, 97, 98, 99, 100, 101, 102, 103, 104, 105, 106] (by decide +kernel) (by decide +kernel)
set_option maxRecDepth 20000 in
theorem gX3_work_X3_risc : GoodIn wsX3_work (wsV RX3 138 RX3 yX3_risc wsX3_risc) := goodIn_app (goodIn_of _ (by decide +kernel)) ggX3_work_X3_risc
theorem dX3_work_0 : decode cX3_work 0 = .ok (.aload_n 0, 1) := by decide +kernel
theorem dX3_work_1 : decode cX3_work 1 = .ok (.getfield 7, 3) := by decide +kernel
theorem dX3_work_4 : decode cX3_work 4 = .ok (.iload_n 1, 1) := by decide +kernel
theorem dX3_work_5 : decode cX3_work 5 = .ok (.iaload, 1) := by decide +kernel
theorem dX3_work_6 : decode cX3_work 6 = .ok (.tableswitch 99 0 6 #[42, 51, 59, 67, 75, 83, 91], 42) := by decide +kernel
theorem dX3_work_48 : decode cX3_work 48 = .ok (.aload_n 0, 1) := by decide +kernel
theorem dX3_work_49 : decode cX3_work 49 = .ok (.iload_n 1, 1) := by decide +kernel
theorem dX3_work_50 : decode cX3_work 50 = .ok (.iconst 1, 1) := by decide +kernel
theorem dX3_work_51 : decode cX3_work 51 = .ok (.invokevirtual 88, 3) := by decide +kernel
theorem dX3_work_54 : decode cX3_work 54 = .ok (.goto 56, 3) := by decide +kernel
theorem dX3_work_57 : decode cX3_work 57 = .ok (.aload_n 0, 1) := by decide +kernel
theorem dX3_work_58 : decode cX3_work 58 = .ok (.iload_n 1, 1) := by decide +kernel
theorem dX3_work_59 : decode cX3_work 59 = .ok (.invokevirtual 119, 3) := by decide +kernel
theorem dX3_work_62 : decode cX3_work 62 = .ok (.goto 48, 3) := by decide +kernel
theorem dX3_work_65 : decode cX3_work 65 = .ok (.aload_n 0, 1) := by decide +kernel
theorem dX3_work_66 : decode cX3_work 66 = .ok (.iload_n 1, 1) := by decide +kernel
theorem dX3_work_67 : decode cX3_work 67 = .ok (.invokevirtual 123, 3) := by decide +kernel
theorem dX3_work_70 : decode cX3_work 70 = .ok (.goto 40, 3) := by decide +kernel
theorem dX3_work_73 : decode cX3_work 73 = .ok (.aload_n 0, 1) := by decide +kernel
theorem dX3_work_74 : decode cX3_work 74 = .ok (.iload_n 1, 1) := by decide +kernel
theorem dX3_work_75 : decode cX3_work 75 = .ok (.invokevirtual 126, 3) := by decide +kernel
theorem dX3_work_78 : decode cX3_work 78 = .ok (.goto 32, 3) := by decide +kernel
theorem dX3_work_81 : decode cX3_work 81 = .ok (.aload_n 0, 1) := by decide +kernel
theorem dX3_work_82 : decode cX3_work 82 = .ok (.iload_n 1, 1) := by decide +kernel
theorem dX3_work_83 : decode cX3_work 83 = .ok (.invokevirtual 129, 3) := by decide +kernel
theorem dX3_work_86 : decode cX3_work 86 = .ok (.goto 24, 3) := by decide +kernel
theorem dX3_work_89 : decode cX3_work 89 = .ok (.aload_n 0, 1) := by decide +kernel
theorem dX3_work_90 : decode cX3_work 90 = .ok (.iload_n 1, 1) := by decide +kernel
theorem dX3_work_91 : decode cX3_work 91 = .ok (.invokevirtual 132, 3) := by decide +kernel
theorem dX3_work_94 : decode cX3_work 94 = .ok (.goto 16, 3) := by decide +kernel
theorem dX3_work_97 : decode cX3_work 97 = .ok (.aload_n 0, 1) := by decide +kernel
theorem dX3_work_98 : decode cX3_work 98 = .ok (.iload_n 1, 1) := by decide +kernel
theorem dX3_work_99 : decode cX3_work 99 = .ok (.invokevirtual 135, 3) := by decide +kernel
theorem dX3_work_102 : decode cX3_work 102 = .ok (.goto 8, 3) := by decide +kernel
theorem dX3_work_105 : decode cX3_work 105 = .ok (.aload_n 0, 1) := by decide +kernel
theorem dX3_work_106 : decode cX3_work 106 = .ok (.iload_n 1, 1) := by decide +kernel
theorem dX3_work_107 : decode cX3_work 107 = .ok (.invokevirtual 138, 3) := by decide +kernel
theorem dX3_work_110 : decode cX3_work 110 = .ok (.return_, 1) := by decide +kernel
set_option maxRecDepth 20000 in
theorem ggX3_goThrough_X3_change : GoodIn wsX3_goThrough wsX3_change := goodIn_r _ [14, 15, 98, 99, 100, 101, 102, 103, 104, 105, 106, 107, 108, 109, 110, 111, 112, 113, 114, 115, 116, 117] (by decide +kernel) (by decide +kernel)
set_option maxRecDepth 20000 in
theorem gX3_goThrough_X3_change : GoodIn wsX3_goThrough (wsV RX3 81 RX3 yX3_change wsX3_change) := goodIn_app (goodIn_of _ (by decide +kernel)) ggX3_goThrough_X3_change
set_option maxRecDepth 20000 in
theorem ggX3_goThrough_X3_needs : GoodIn wsX3_goThrough wsX3_needs := goodIn_r _ [18] (by decide +kernel) (by decide +kernel)
set_option maxRecDepth 20000 in
theorem gX3_goThrough_X3_needs : GoodIn wsX3_goThrough (va_wsS RX3 144 yX3_needs wsX3_needs) := goodIn_app (goodIn_of _ (by decide +kernel)) ggX3_goThrough_X3_needs
set_option maxRecDepth 20000 in
theorem ggX3_goThrough_X3_work : GoodIn wsX3_goThrough wsX3_work := goodIn_r _ [22, 6, 23, 24, 25, 13, 26, 7, 2, 4, 27, 28, 29, 30, 31, 15, 10, 11, 12, 14, 32, 33, 34, 35, 36, 37, 1, 38, 39, 40, 41, 42, 43, 44, 45, 46, 47, 48, 49, 50, 51, 52, 53, 54, 55, 56, 57, 58, 59, 60, 61, 62, 63, 64, 65, 66, 67, 68, 69, 70, 71, 72, 73, 74, 75, 76, 77, 78, 79, 80, 81, 82, 83, 84, 85, 86, 87, 88, 89, 90, 91, 92, 93, 94, 95, 96, 97, 98, 99, 100, 101, 102, 103, 104, 105, 106, 107, 108, 109, 110, 111, 112, 113, 114, 115, 116, 117] (by decide +kernel) (by decide +kernel)
set_option maxRecDepth 20000 in
theorem gX3_goThrough_X3_work : GoodIn wsX3_goThrough (wsV RX3 147 RX3 yX3_work wsX3_work) := goodIn_app (goodIn_of _ (by decide +kernel)) ggX3_goThrough_X3_work
set_option maxRecDepth 20000 in
theorem ggX3_goThrough_X3_give : GoodIn wsX3_goThrough wsX3_give := goodIn_r _ [26, 7, 2, 4, 27, 28, 29, 30, 13, 31, 15, 10, 11, 12, 14, 98, 99, 100, 101, 102, 103, 104, 105, 106, 107, 108, 109, 110, 111, 112, 113, 114, 115, 116, 117] (by decide +kernel) (by decide +kernel)
set_option maxRecDepth 20000 in
theorem gX3_goThrough_X3_give : GoodIn wsX3_goThrough (wsV RX3 88 RX3 yX3_give wsX3_give) := goodIn_app (goodIn_of _ (by decide +kernel)) ggX3_goThrough_X3_give
theorem dX3_goThrough_0 : decode cX3_goThrough 0 = .ok (.iconst 0, 1) := by decide +kernel
theorem dX3_goThrough_1 : decode cX3_goThrough 1 = .ok (.istore_n 2, 1) := by decide +kernel
theorem dX3_goThrough_2 : decode cX3_goThrough 2 = .ok (.iload_n 2, 1) := by decide +kernel
theorem dX3_goThrough_3 : decode cX3_goThrough 3 = .ok (.iconst 4, 1) := by decide +kernel
theorem dX3_goThrough_4 : decode cX3_goThrough 4 = .ok (.if_icmp .ge 156, 3) := by decide +kernel
theorem dX3_goThrough_7 : decode cX3_goThrough 7 = .ok (.aload_n 0, 1) := by decide +kernel
theorem dX3_goThrough_8 : decode cX3_goThrough 8 = .ok (.getfield 16, 3) := by decide +kernel
theorem dX3_goThrough_11 : decode cX3_goThrough 11 = .ok (.ifCond .eq 7, 3) := by decide +kernel
theorem dX3_goThrough_14 : decode cX3_goThrough 14 = .ok (.iload_n 2, 1) := by decide +kernel
theorem dX3_goThrough_15 : decode cX3_goThrough 15 = .ok (.goto 6, 3) := by decide +kernel
theorem dX3_goThrough_18 : decode cX3_goThrough 18 = .ok (.iconst 3, 1) := by decide +kernel
theorem dX3_goThrough_19 : decode cX3_goThrough 19 = .ok (.iload_n 2, 1) := by decide +kernel
theorem dX3_goThrough_20 : decode cX3_goThrough 20 = .ok (.isub, 1) := by decide +kernel
theorem dX3_goThrough_21 : decode cX3_goThrough 21 = .ok (.istore_n 3, 1) := by decide +kernel
theorem dX3_goThrough_22 : decode cX3_goThrough 22 = .ok (.aload_n 0, 1) := by decide +kernel
theorem dX3_goThrough_23 : decode cX3_goThrough 23 = .ok (.iconst 0, 1) := by decide +kernel
theorem dX3_goThrough_24 : decode cX3_goThrough 24 = .ok (.putfield 85, 3) := by decide +kernel
theorem dX3_goThrough_27 : decode cX3_goThrough 27 = .ok (.iconst 0, 1) := by decide +kernel
theorem dX3_goThrough_28 : decode cX3_goThrough 28 = .ok (.istore 4, 2) := by decide +kernel
theorem dX3_goThrough_30 : decode cX3_goThrough 30 = .ok (.iload 4, 2) := by decide +kernel
theorem dX3_goThrough_32 : decode cX3_goThrough 32 = .ok (.aload_n 0, 1) := by decide +kernel
theorem dX3_goThrough_33 : decode cX3_goThrough 33 = .ok (.getfield 141, 3) := by decide +kernel
theorem dX3_goThrough_36 : decode cX3_goThrough 36 = .ok (.if_icmp .ge 63, 3) := by decide +kernel
theorem dX3_goThrough_39 : decode cX3_goThrough 39 = .ok (.aload_n 0, 1) := by decide +kernel
theorem dX3_goThrough_40 : decode cX3_goThrough 40 = .ok (.iload_n 3, 1) := by decide +kernel
theorem dX3_goThrough_41 : decode cX3_goThrough 41 = .ok (.aload_n 0, 1) := by decide +kernel
theorem dX3_goThrough_42 : decode cX3_goThrough 42 = .ok (.getfield 23, 3) := by decide +kernel
theorem dX3_goThrough_45 : decode cX3_goThrough 45 = .ok (.iload_n 3, 1) := by decide +kernel
theorem dX3_goThrough_46 : decode cX3_goThrough 46 = .ok (.iaload, 1) := by decide +kernel
theorem dX3_goThrough_47 : decode cX3_goThrough 47 = .ok (.aload_n 0, 1) := by decide +kernel
theorem dX3_goThrough_48 : decode cX3_goThrough 48 = .ok (.getfield 41, 3) := by decide +kernel
theorem dX3_goThrough_51 : decode cX3_goThrough 51 = .ok (.iload 4, 2) := by decide +kernel
theorem dX3_goThrough_53 : decode cX3_goThrough 53 = .ok (.iaload, 1) := by decide +kernel
theorem dX3_goThrough_54 : decode cX3_goThrough 54 = .ok (.invokevirtual 81, 3) := by decide +kernel
theorem dX3_goThrough_57 : decode cX3_goThrough 57 = .ok (.aload_n 0, 1) := by decide +kernel
theorem dX3_goThrough_58 : decode cX3_goThrough 58 = .ok (.getfield 23, 3) := by decide +kernel
theorem dX3_goThrough_61 : decode cX3_goThrough 61 = .ok (.iload_n 3, 1) := by decide +kernel
theorem dX3_goThrough_62 : decode cX3_goThrough 62 = .ok (.dup2, 1) := by decide +kernel
theorem dX3_goThrough_63 : decode cX3_goThrough 63 = .ok (.iaload, 1) := by decide +kernel
theorem dX3_goThrough_64 : decode cX3_goThrough 64 = .ok (.iconst 1, 1) := by decide +kernel
theorem dX3_goThrough_65 : decode cX3_goThrough 65 = .ok (.iadd, 1) := by decide +kernel
theorem dX3_goThrough_66 : decode cX3_goThrough 66 = .ok (.iastore, 1) := by decide +kernel
theorem dX3_goThrough_67 : decode cX3_goThrough 67 = .ok (.aload_n 0, 1) := by decide +kernel
theorem dX3_goThrough_68 : decode cX3_goThrough 68 = .ok (.getfield 23, 3) := by decide +kernel
theorem dX3_goThrough_71 : decode cX3_goThrough 71 = .ok (.iload_n 3, 1) := by decide +kernel
theorem dX3_goThrough_72 : decode cX3_goThrough 72 = .ok (.iaload, 1) := by decide +kernel
theorem dX3_goThrough_73 : decode cX3_goThrough 73 = .ok (.aload_n 0, 1) := by decide +kernel
theorem dX3_goThrough_74 : decode cX3_goThrough 74 = .ok (.getfield 7, 3) := by decide +kernel
theorem dX3_goThrough_77 : decode cX3_goThrough 77 = .ok (.iload_n 3, 1) := by decide +kernel
theorem dX3_goThrough_78 : decode cX3_goThrough 78 = .ok (.iaload, 1) := by decide +kernel
theorem dX3_goThrough_79 : decode cX3_goThrough 79 = .ok (.invokestatic 144, 3) := by decide +kernel
theorem dX3_goThrough_82 : decode cX3_goThrough 82 = .ok (.if_icmp .lt 11, 3) := by decide +kernel
theorem dX3_goThrough_85 : decode cX3_goThrough 85 = .ok (.aload_n 0, 1) := by decide +kernel
theorem dX3_goThrough_86 : decode cX3_goThrough 86 = .ok (.iload_n 3, 1) := by decide +kernel
theorem dX3_goThrough_87 : decode cX3_goThrough 87 = .ok (.invokevirtual 147, 3) := by decide +kernel
theorem dX3_goThrough_90 : decode cX3_goThrough 90 = .ok (.goto (-23), 3) := by decide +kernel
theorem dX3_goThrough_93 : decode cX3_goThrough 93 = .ok (.iinc 4 1, 3) := by decide +kernel
theorem dX3_goThrough_96 : decode cX3_goThrough 96 = .ok (.goto (-66), 3) := by decide +kernel
theorem dX3_goThrough_99 : decode cX3_goThrough 99 = .ok (.iload_n 1, 1) := by decide +kernel
theorem dX3_goThrough_100 : decode cX3_goThrough 100 = .ok (.ifCond .eq 14, 3) := by decide +kernel
theorem dX3_goThrough_103 : decode cX3_goThrough 103 = .ok (.aload_n 0, 1) := by decide +kernel
theorem dX3_goThrough_104 : decode cX3_goThrough 104 = .ok (.iload_n 3, 1) := by decide +kernel
theorem dX3_goThrough_105 : decode cX3_goThrough 105 = .ok (.aload_n 0, 1) := by decide +kernel
theorem dX3_goThrough_106 : decode cX3_goThrough 106 = .ok (.getfield 23, 3) := by decide +kernel
theorem dX3_goThrough_109 : decode cX3_goThrough 109 = .ok (.iload_n 3, 1) := by decide +kernel
theorem dX3_goThrough_110 : decode cX3_goThrough 110 = .ok (.iaload, 1) := by decide +kernel
theorem dX3_goThrough_111 : decode cX3_goThrough 111 = .ok (.invokevirtual 88, 3) := by decide +kernel
theorem dX3_goThrough_114 : decode cX3_goThrough 114 = .ok (.aload_n 0, 1) := by decide +kernel
theorem dX3_goThrough_115 : decode cX3_goThrough 115 = .ok (.aload_n 0, 1) := by decide +kernel
theorem dX3_goThrough_116 : decode cX3_goThrough 116 = .ok (.getfield 85, 3) := by decide +kernel
theorem dX3_goThrough_119 : decode cX3_goThrough 119 = .ok (.putfield 141, 3) := by decide +kernel
theorem dX3_goThrough_122 : decode cX3_goThrough 122 = .ok (.iconst 0, 1) := by decide +kernel
theorem dX3_goThrough_123 : decode cX3_goThrough 123 = .ok (.istore 4, 2) := by decide +kernel
theorem dX3_goThrough_125 : decode cX3_goThrough 125 = .ok (.iload 4, 2) := by decide +kernel
theorem dX3_goThrough_127 : decode cX3_goThrough 127 = .ok (.aload_n 0, 1) := by decide +kernel
theorem dX3_goThrough_128 : decode cX3_goThrough 128 = .ok (.getfield 85, 3) := by decide +kernel
theorem dX3_goThrough_131 : decode cX3_goThrough 131 = .ok (.if_icmp .ge 23, 3) := by decide +kernel
theorem dX3_goThrough_134 : decode cX3_goThrough 134 = .ok (.aload_n 0, 1) := by decide +kernel
theorem dX3_goThrough_135 : decode cX3_goThrough 135 = .ok (.getfield 41, 3) := by decide +kernel
theorem dX3_goThrough_138 : decode cX3_goThrough 138 = .ok (.iload 4, 2) := by decide +kernel
end
section
theorem dX3_goThrough_140 : decode cX3_goThrough 140 = .ok (.aload_n 0, 1) := by decide +kernel
theorem dX3_goThrough_141 : decode cX3_goThrough 141 = .ok (.getfield 44, 3) := by decide +kernel
theorem dX3_goThrough_144 : decode cX3_goThrough 144 = .ok (.iload 4, 2) := by decide +kernel
theorem dX3_goThrough_146 : decode cX3_goThrough 146 = .ok (.iaload, 1) := by decide +kernel
theorem dX3_goThrough_147 : decode cX3_goThrough 147 = .ok (.iastore, 1) := by decide +kernel
theorem dX3_goThrough_148 : decode cX3_goThrough 148 = .ok (.iinc 4 1, 3) := by decide +kernel
theorem dX3_goThrough_151 : decode cX3_goThrough 151 = .ok (.goto (-26), 3) := by decide +kernel
theorem dX3_goThrough_154 : decode cX3_goThrough 154 = .ok (.iinc 2 1, 3) := by decide +kernel
theorem dX3_goThrough_157 : decode cX3_goThrough 157 = .ok (.goto (-155), 3) := by decide +kernel
theorem dX3_goThrough_160 : decode cX3_goThrough 160 = .ok (.iconst 0, 1) := by decide +kernel
theorem dX3_goThrough_161 : decode cX3_goThrough 161 = .ok (.istore_n 2, 1) := by decide +kernel
theorem dX3_goThrough_162 : decode cX3_goThrough 162 = .ok (.iload_n 2, 1) := by decide +kernel
theorem dX3_goThrough_163 : decode cX3_goThrough 163 = .ok (.aload_n 0, 1) := by decide +kernel
theorem dX3_goThrough_164 : decode cX3_goThrough 164 = .ok (.getfield 141, 3) := by decide +kernel
theorem dX3_goThrough_167 : decode cX3_goThrough 167 = .ok (.if_icmp .ge 34, 3) := by decide +kernel
theorem dX3_goThrough_170 : decode cX3_goThrough 170 = .ok (.aload_n 0, 1) := by decide +kernel
theorem dX3_goThrough_171 : decode cX3_goThrough 171 = .ok (.getfield 47, 3) := by decide +kernel
theorem dX3_goThrough_174 : decode cX3_goThrough 174 = .ok (.aload_n 0, 1) := by decide +kernel
theorem dX3_goThrough_175 : decode cX3_goThrough 175 = .ok (.getfield 63, 3) := by decide +kernel
theorem dX3_goThrough_178 : decode cX3_goThrough 178 = .ok (.aload_n 0, 1) := by decide +kernel
theorem dX3_goThrough_179 : decode cX3_goThrough 179 = .ok (.getfield 41, 3) := by decide +kernel
theorem dX3_goThrough_182 : decode cX3_goThrough 182 = .ok (.iload_n 2, 1) := by decide +kernel
theorem dX3_goThrough_183 : decode cX3_goThrough 183 = .ok (.iaload, 1) := by decide +kernel
theorem dX3_goThrough_184 : decode cX3_goThrough 184 = .ok (.iastore, 1) := by decide +kernel
theorem dX3_goThrough_185 : decode cX3_goThrough 185 = .ok (.aload_n 0, 1) := by decide +kernel
theorem dX3_goThrough_186 : decode cX3_goThrough 186 = .ok (.dup, 1) := by decide +kernel
theorem dX3_goThrough_187 : decode cX3_goThrough 187 = .ok (.getfield 63, 3) := by decide +kernel
theorem dX3_goThrough_190 : decode cX3_goThrough 190 = .ok (.iconst 1, 1) := by decide +kernel
theorem dX3_goThrough_191 : decode cX3_goThrough 191 = .ok (.iadd, 1) := by decide +kernel
theorem dX3_goThrough_192 : decode cX3_goThrough 192 = .ok (.putfield 63, 3) := by decide +kernel
theorem dX3_goThrough_195 : decode cX3_goThrough 195 = .ok (.iinc 2 1, 3) := by decide +kernel
theorem dX3_goThrough_198 : decode cX3_goThrough 198 = .ok (.goto (-36), 3) := by decide +kernel
theorem dX3_goThrough_201 : decode cX3_goThrough 201 = .ok (.return_, 1) := by decide +kernel
set_option maxRecDepth 20000 in
theorem ggX3_feed_X3_isIn : GoodIn wsX3_feed wsX3_isIn := goodIn_r _ [9] (by rfl) (by decide +kernel)
set_option maxRecDepth 20000 in
theorem gX3_feed_X3_isIn : GoodIn wsX3_feed (va_wsS RX3 69 yX3_isIn wsX3_isIn) := goodIn_app (goodIn_of _ (by decide +kernel)) ggX3_feed_X3_isIn
set_option maxRecDepth 20000 in
theorem ggX3_feed_X3_refused : GoodIn wsX3_feed wsX3_refused := goodIn_r _ [13, 14, 112, 113, 114, 115, 116, 117, 118, 119, 120, 121, 122, 123, 124, 125, 126, 127, 128, 129, 130, 131] (by rfl) (by decide +kernel)
set_option maxRecDepth 20000 in
theorem gX3_feed_X3_refused : GoodIn wsX3_feed (wsV RX3 73 RX3 yX3_refused wsX3_refused) := goodIn_app (goodIn_of _ (by decide +kernel)) ggX3_feed_X3_refused
set_option maxRecDepth 20000 in
theorem ggX3_feed_X3_goThrough : GoodIn wsX3_feed wsX3_goThrough := goodIn_r _ [18, 19, 20, 3, 21, 4, 22, 23, 24, 5, 25, 26, 27, 8, 28, 29, 30, 31, 32, 33, 34, 35, 36, 37, 38, 39, 40, 41, 42, 43, 44, 45, 46, 47, 48, 49, 50, 51, 52, 53, 54, 55, 56, 57, 58, 59, 60, 61, 62, 63, 64, 65, 66, 67, 68, 69, 70, 71, 72, 73, 74, 75, 76, 77, 78, 79, 80, 81, 82, 83, 84, 85, 86, 87, 88, 89, 90, 91, 92, 93, 94, 95, 96, 97, 98, 99, 100, 101, 102, 103, 104, 105, 106, 107, 108, 109, 110, 111, 112, 113, 114, 115, 116, 117, 118, 119, 120, 121, 122, 123, 124, 125, 126, 127, 128, 129, 130, 131] (by rfl) (by decide +kernel)
set_option maxRecDepth 20000 in
theorem gX3_feed_X3_goThrough : GoodIn wsX3_feed (wsV RX3 150 RX3 yX3_goThrough wsX3_goThrough) := goodIn_app (goodIn_of _ (by decide +kernel)) ggX3_feed_X3_goThrough
theorem dX3_feed_0 : decode cX3_feed 0 = .ok (.aload_n 0, 1) := by decide +kernel
theorem dX3_feed_1 : decode cX3_feed 1 = .ok (.iload_n 1, 1) := by decide +kernel
theorem dX3_feed_2 : decode cX3_feed 2 = .ok (.iconst 0, 1) := by decide +kernel
theorem dX3_feed_3 : decode cX3_feed 3 = .ok (.bipush 16, 2) := by decide +kernel
theorem dX3_feed_5 : decode cX3_feed 5 = .ok (.invokestatic 69, 3) := by decide +kernel
theorem dX3_feed_8 : decode cX3_feed 8 = .ok (.ifCond .ne 7, 3) := by decide +kernel
theorem dX3_feed_11 : decode cX3_feed 11 = .ok (.iconst 1, 1) := by decide +kernel
theorem dX3_feed_12 : decode cX3_feed 12 = .ok (.goto 27, 3) := by decide +kernel
theorem dX3_feed_15 : decode cX3_feed 15 = .ok (.aload_n 0, 1) := by decide +kernel
theorem dX3_feed_16 : decode cX3_feed 16 = .ok (.getfield 57, 3) := by decide +kernel
theorem dX3_feed_19 : decode cX3_feed 19 = .ok (.iload_n 1, 1) := by decide +kernel
theorem dX3_feed_20 : decode cX3_feed 20 = .ok (.iadd, 1) := by decide +kernel
theorem dX3_feed_21 : decode cX3_feed 21 = .ok (.sipush 2000, 3) := by decide +kernel
theorem dX3_feed_24 : decode cX3_feed 24 = .ok (.if_icmp .gt 10, 3) := by decide +kernel
theorem dX3_feed_27 : decode cX3_feed 27 = .ok (.aload_n 0, 1) := by decide +kernel
theorem dX3_feed_28 : decode cX3_feed 28 = .ok (.getfield 60, 3) := by decide +kernel
theorem dX3_feed_31 : decode cX3_feed 31 = .ok (.ifCond .eq 7, 3) := by decide +kernel
theorem dX3_feed_34 : decode cX3_feed 34 = .ok (.iconst 2, 1) := by decide +kernel
theorem dX3_feed_35 : decode cX3_feed 35 = .ok (.goto 4, 3) := by decide +kernel
theorem dX3_feed_38 : decode cX3_feed 38 = .ok (.iconst 0, 1) := by decide +kernel
theorem dX3_feed_39 : decode cX3_feed 39 = .ok (.invokevirtual 73, 3) := by decide +kernel
theorem dX3_feed_42 : decode cX3_feed 42 = .ok (.ifCond .eq 5, 3) := by decide +kernel
theorem dX3_feed_45 : decode cX3_feed 45 = .ok (.iconst 0, 1) := by decide +kernel
theorem dX3_feed_46 : decode cX3_feed 46 = .ok (.ireturn, 1) := by decide +kernel
theorem dX3_feed_47 : decode cX3_feed 47 = .ok (.aload_n 0, 1) := by decide +kernel
theorem dX3_feed_48 : decode cX3_feed 48 = .ok (.aload_n 0, 1) := by decide +kernel
theorem dX3_feed_49 : decode cX3_feed 49 = .ok (.getfield 57, 3) := by decide +kernel
theorem dX3_feed_52 : decode cX3_feed 52 = .ok (.iload_n 1, 1) := by decide +kernel
theorem dX3_feed_53 : decode cX3_feed 53 = .ok (.iadd, 1) := by decide +kernel
theorem dX3_feed_54 : decode cX3_feed 54 = .ok (.putfield 57, 3) := by decide +kernel
theorem dX3_feed_57 : decode cX3_feed 57 = .ok (.aload_n 0, 1) := by decide +kernel
theorem dX3_feed_58 : decode cX3_feed 58 = .ok (.iload_n 1, 1) := by decide +kernel
theorem dX3_feed_59 : decode cX3_feed 59 = .ok (.putfield 141, 3) := by decide +kernel
theorem dX3_feed_62 : decode cX3_feed 62 = .ok (.iconst 0, 1) := by decide +kernel
theorem dX3_feed_63 : decode cX3_feed 63 = .ok (.istore 6, 2) := by decide +kernel
theorem dX3_feed_65 : decode cX3_feed 65 = .ok (.iload 6, 2) := by decide +kernel
theorem dX3_feed_67 : decode cX3_feed 67 = .ok (.iload_n 1, 1) := by decide +kernel
theorem dX3_feed_68 : decode cX3_feed 68 = .ok (.if_icmp .ge 70, 3) := by decide +kernel
theorem dX3_feed_71 : decode cX3_feed 71 = .ok (.iload 6, 2) := by decide +kernel
theorem dX3_feed_73 : decode cX3_feed 73 = .ok (.iconst 4, 1) := by decide +kernel
theorem dX3_feed_74 : decode cX3_feed 74 = .ok (.if_icmp .ge 7, 3) := by decide +kernel
theorem dX3_feed_77 : decode cX3_feed 77 = .ok (.iload_n 2, 1) := by decide +kernel
theorem dX3_feed_78 : decode cX3_feed 78 = .ok (.goto 28, 3) := by decide +kernel
theorem dX3_feed_81 : decode cX3_feed 81 = .ok (.iload 6, 2) := by decide +kernel
theorem dX3_feed_83 : decode cX3_feed 83 = .ok (.bipush 8, 2) := by decide +kernel
theorem dX3_feed_85 : decode cX3_feed 85 = .ok (.if_icmp .ge 7, 3) := by decide +kernel
theorem dX3_feed_88 : decode cX3_feed 88 = .ok (.iload_n 3, 1) := by decide +kernel
theorem dX3_feed_89 : decode cX3_feed 89 = .ok (.goto 17, 3) := by decide +kernel
theorem dX3_feed_92 : decode cX3_feed 92 = .ok (.iload 6, 2) := by decide +kernel
theorem dX3_feed_94 : decode cX3_feed 94 = .ok (.bipush 12, 2) := by decide +kernel
theorem dX3_feed_96 : decode cX3_feed 96 = .ok (.if_icmp .ge 8, 3) := by decide +kernel
theorem dX3_feed_99 : decode cX3_feed 99 = .ok (.iload 4, 2) := by decide +kernel
theorem dX3_feed_101 : decode cX3_feed 101 = .ok (.goto 5, 3) := by decide +kernel
theorem dX3_feed_104 : decode cX3_feed 104 = .ok (.iload 5, 2) := by decide +kernel
theorem dX3_feed_106 : decode cX3_feed 106 = .ok (.istore 7, 2) := by decide +kernel
theorem dX3_feed_108 : decode cX3_feed 108 = .ok (.aload_n 0, 1) := by decide +kernel
theorem dX3_feed_109 : decode cX3_feed 109 = .ok (.getfield 41, 3) := by decide +kernel
theorem dX3_feed_112 : decode cX3_feed 112 = .ok (.iload 6, 2) := by decide +kernel
theorem dX3_feed_114 : decode cX3_feed 114 = .ok (.iload 7, 2) := by decide +kernel
theorem dX3_feed_116 : decode cX3_feed 116 = .ok (.bipush 24, 2) := by decide +kernel
theorem dX3_feed_118 : decode cX3_feed 118 = .ok (.bipush 8, 2) := by decide +kernel
theorem dX3_feed_120 : decode cX3_feed 120 = .ok (.iload 6, 2) := by decide +kernel
theorem dX3_feed_122 : decode cX3_feed 122 = .ok (.iconst 4, 1) := by decide +kernel
theorem dX3_feed_123 : decode cX3_feed 123 = .ok (.irem, 1) := by decide +kernel
theorem dX3_feed_124 : decode cX3_feed 124 = .ok (.imul, 1) := by decide +kernel
theorem dX3_feed_125 : decode cX3_feed 125 = .ok (.isub, 1) := by decide +kernel
theorem dX3_feed_126 : decode cX3_feed 126 = .ok (.ishr, 1) := by decide +kernel
theorem dX3_feed_127 : decode cX3_feed 127 = .ok (.sipush 255, 3) := by decide +kernel
theorem dX3_feed_130 : decode cX3_feed 130 = .ok (.iand, 1) := by decide +kernel
theorem dX3_feed_131 : decode cX3_feed 131 = .ok (.iastore, 1) := by decide +kernel
theorem dX3_feed_132 : decode cX3_feed 132 = .ok (.iinc 6 1, 3) := by decide +kernel
theorem dX3_feed_135 : decode cX3_feed 135 = .ok (.goto (-70), 3) := by decide +kernel
theorem dX3_feed_138 : decode cX3_feed 138 = .ok (.aload_n 0, 1) := by decide +kernel
theorem dX3_feed_139 : decode cX3_feed 139 = .ok (.iconst 0, 1) := by decide +kernel
theorem dX3_feed_140 : decode cX3_feed 140 = .ok (.invokevirtual 150, 3) := by decide +kernel
theorem dX3_feed_143 : decode cX3_feed 143 = .ok (.aload_n 0, 1) := by decide +kernel
theorem dX3_feed_144 : decode cX3_feed 144 = .ok (.getfield 63, 3) := by decide +kernel
theorem dX3_feed_147 : decode cX3_feed 147 = .ok (.ireturn, 1) := by decide +kernel
set_option maxRecDepth 20000 in
theorem ggX3_finish_X3_refused : GoodIn wsX3_finish wsX3_refused := goodIn_r _ [8, 9, 108, 109, 110, 111, 112, 113, 114, 115, 116, 117, 118, 119, 120, 121, 122, 123, 124, 125, 126, 127] (by rfl) (by decide +kernel)
set_option maxRecDepth 20000 in
theorem gX3_finish_X3_refused : GoodIn wsX3_finish (wsV RX3 73 RX3 yX3_refused wsX3_refused) := goodIn_app (goodIn_of _ (by decide +kernel)) ggX3_finish_X3_refused
set_option maxRecDepth 20000 in
theorem ggX3_finish_X3_goThrough : GoodIn wsX3_finish wsX3_goThrough := goodIn_r _ [13, 14, 15, 2, 16, 17, 18, 19, 20, 3, 21, 22, 23, 7, 24, 25, 26, 27, 28, 29, 30, 31, 32, 33, 34, 35, 36, 37, 38, 39, 40, 41, 42, 43, 44, 45, 46, 47, 48, 49, 50, 51, 52, 53, 54, 55, 56, 57, 58, 59, 60, 61, 62, 63, 64, 65, 66, 67, 68, 69, 70, 71, 72, 73, 74, 75, 76, 77, 78, 79, 80, 81, 82, 83, 84, 85, 86, 87, 88, 89, 90, 91, 92, 93, 94, 95, 96, 97, 98, 99, 100, 101, 102, 103, 104, 105, 106, 107, 108, 109, 110, 111, 112, 113, 114, 115, 116, 117, 118, 119, 120, 121, 122, 123, 124, 125, 126, 127] (by rfl) (by decide +kernel)
set_option maxRecDepth 20000 in
theorem gX3_finish_X3_goThrough : GoodIn wsX3_finish (wsV RX3 150 RX3 yX3_goThrough wsX3_goThrough) := goodIn_app (goodIn_of _ (by decide +kernel)) ggX3_finish_X3_goThrough
theorem dX3_finish_0 : decode cX3_finish 0 = .ok (.aload_n 0, 1) := by decide +kernel
theorem dX3_finish_1 : decode cX3_finish 1 = .ok (.aload_n 0, 1) := by decide +kernel
theorem dX3_finish_2 : decode cX3_finish 2 = .ok (.getfield 60, 3) := by decide +kernel
theorem dX3_finish_5 : decode cX3_finish 5 = .ok (.ifCond .eq 7, 3) := by decide +kernel
theorem dX3_finish_8 : decode cX3_finish 8 = .ok (.iconst 1, 1) := by decide +kernel
theorem dX3_finish_9 : decode cX3_finish 9 = .ok (.goto 4, 3) := by decide +kernel
theorem dX3_finish_12 : decode cX3_finish 12 = .ok (.iconst 0, 1) := by decide +kernel
theorem dX3_finish_13 : decode cX3_finish 13 = .ok (.invokevirtual 73, 3) := by decide +kernel
theorem dX3_finish_16 : decode cX3_finish 16 = .ok (.ifCond .eq 5, 3) := by decide +kernel
theorem dX3_finish_19 : decode cX3_finish 19 = .ok (.iconst 0, 1) := by decide +kernel
theorem dX3_finish_20 : decode cX3_finish 20 = .ok (.ireturn, 1) := by decide +kernel
theorem dX3_finish_21 : decode cX3_finish 21 = .ok (.aload_n 0, 1) := by decide +kernel
theorem dX3_finish_22 : decode cX3_finish 22 = .ok (.iconst 1, 1) := by decide +kernel
theorem dX3_finish_23 : decode cX3_finish 23 = .ok (.putfield 60, 3) := by decide +kernel
theorem dX3_finish_26 : decode cX3_finish 26 = .ok (.aload_n 0, 1) := by decide +kernel
theorem dX3_finish_27 : decode cX3_finish 27 = .ok (.iconst 0, 1) := by decide +kernel
theorem dX3_finish_28 : decode cX3_finish 28 = .ok (.putfield 141, 3) := by decide +kernel
theorem dX3_finish_31 : decode cX3_finish 31 = .ok (.aload_n 0, 1) := by decide +kernel
theorem dX3_finish_32 : decode cX3_finish 32 = .ok (.iconst 1, 1) := by decide +kernel
theorem dX3_finish_33 : decode cX3_finish 33 = .ok (.invokevirtual 150, 3) := by decide +kernel
theorem dX3_finish_36 : decode cX3_finish 36 = .ok (.aload_n 0, 1) := by decide +kernel
theorem dX3_finish_37 : decode cX3_finish 37 = .ok (.getfield 63, 3) := by decide +kernel
theorem dX3_finish_40 : decode cX3_finish 40 = .ok (.ireturn, 1) := by decide +kernel
set_option maxRecDepth 20000 in
theorem ggX3_output_X3_isIn : GoodIn wsX3_output wsX3_isIn := goodIn_r _ [7] (by rfl) (by decide +kernel)
set_option maxRecDepth 20000 in
theorem gX3_output_X3_isIn : GoodIn wsX3_output (va_wsS RX3 69 yX3_isIn wsX3_isIn) := goodIn_app (goodIn_of _ (by decide +kernel)) ggX3_output_X3_isIn
theorem dX3_output_0 : decode cX3_output 0 = .ok (.aload_n 0, 1) := by decide +kernel
theorem dX3_output_1 : decode cX3_output 1 = .ok (.iconst 0, 1) := by decide +kernel
theorem dX3_output_2 : decode cX3_output 2 = .ok (.putfield 53, 3) := by decide +kernel
theorem dX3_output_5 : decode cX3_output 5 = .ok (.iload_n 1, 1) := by decide +kernel
theorem dX3_output_6 : decode cX3_output 6 = .ok (.iconst 0, 1) := by decide +kernel
theorem dX3_output_7 : decode cX3_output 7 = .ok (.aload_n 0, 1) := by decide +kernel
theorem dX3_output_8 : decode cX3_output 8 = .ok (.getfield 63, 3) := by decide +kernel
theorem dX3_output_11 : decode cX3_output 11 = .ok (.iconst 1, 1) := by decide +kernel
theorem dX3_output_12 : decode cX3_output 12 = .ok (.isub, 1) := by decide +kernel
theorem dX3_output_13 : decode cX3_output 13 = .ok (.invokestatic 69, 3) := by decide +kernel
theorem dX3_output_16 : decode cX3_output 16 = .ok (.ifCond .eq 12, 3) := by decide +kernel
theorem dX3_output_19 : decode cX3_output 19 = .ok (.aload_n 0, 1) := by decide +kernel
theorem dX3_output_20 : decode cX3_output 20 = .ok (.getfield 47, 3) := by decide +kernel
theorem dX3_output_23 : decode cX3_output 23 = .ok (.iload_n 1, 1) := by decide +kernel
theorem dX3_output_24 : decode cX3_output 24 = .ok (.iaload, 1) := by decide +kernel
theorem dX3_output_25 : decode cX3_output 25 = .ok (.goto 4, 3) := by decide +kernel
theorem dX3_output_28 : decode cX3_output 28 = .ok (.iconst (-1), 1) := by decide +kernel
theorem dX3_output_29 : decode cX3_output 29 = .ok (.ireturn, 1) := by decide +kernel
set_option maxRecDepth 20000 in
theorem ggX3_count_X3_isIn : GoodIn wsX3_count wsX3_isIn := goodIn_r _ [10] (by rfl) (by decide +kernel)
set_option maxRecDepth 20000 in
theorem gX3_count_X3_isIn : GoodIn wsX3_count (va_wsS RX3 69 yX3_isIn wsX3_isIn) := goodIn_app (goodIn_of _ (by decide +kernel)) ggX3_count_X3_isIn
set_option maxRecDepth 20000 in
theorem ggX3_count_X3_refused : GoodIn wsX3_count wsX3_refused := goodIn_r _ [14, 15, 16, 17, 18, 19, 20, 21, 22, 23, 24, 25, 26, 27, 28, 29, 30, 31, 32, 33, 34, 35] (by rfl) (by decide +kernel)
set_option maxRecDepth 20000 in
theorem gX3_count_X3_refused : GoodIn wsX3_count (wsV RX3 73 RX3 yX3_refused wsX3_refused) := goodIn_app (goodIn_of _ (by decide +kernel)) ggX3_count_X3_refused
theorem dX3_count_0 : decode cX3_count 0 = .ok (.aload_n 0, 1) := by decide +kernel
theorem dX3_count_1 : decode cX3_count 1 = .ok (.iload_n 1, 1) := by decide +kernel
theorem dX3_count_2 : decode cX3_count 2 = .ok (.iconst 0, 1) := by decide +kernel
theorem dX3_count_3 : decode cX3_count 3 = .ok (.iconst 3, 1) := by decide +kernel
theorem dX3_count_4 : decode cX3_count 4 = .ok (.invokestatic 69, 3) := by decide +kernel
theorem dX3_count_7 : decode cX3_count 7 = .ok (.ifCond .eq 16, 3) := by decide +kernel
theorem dX3_count_10 : decode cX3_count 10 = .ok (.iload_n 2, 1) := by decide +kernel
theorem dX3_count_11 : decode cX3_count 11 = .ok (.iconst 0, 1) := by decide +kernel
theorem dX3_count_12 : decode cX3_count 12 = .ok (.iconst 5, 1) := by decide +kernel
theorem dX3_count_13 : decode cX3_count 13 = .ok (.invokestatic 69, 3) := by decide +kernel
theorem dX3_count_16 : decode cX3_count 16 = .ok (.ifCond .eq 7, 3) := by decide +kernel
theorem dX3_count_19 : decode cX3_count 19 = .ok (.iconst 0, 1) := by decide +kernel
theorem dX3_count_20 : decode cX3_count 20 = .ok (.goto 4, 3) := by decide +kernel
theorem dX3_count_23 : decode cX3_count 23 = .ok (.iconst 1, 1) := by decide +kernel
theorem dX3_count_24 : decode cX3_count 24 = .ok (.invokevirtual 73, 3) := by decide +kernel
theorem dX3_count_27 : decode cX3_count 27 = .ok (.ifCond .eq 5, 3) := by decide +kernel
theorem dX3_count_30 : decode cX3_count 30 = .ok (.iconst 0, 1) := by decide +kernel
theorem dX3_count_31 : decode cX3_count 31 = .ok (.ireturn, 1) := by decide +kernel
theorem dX3_count_32 : decode cX3_count 32 = .ok (.iload_n 2, 1) := by decide +kernel
theorem dX3_count_33 : decode cX3_count 33 = .ok (.tableswitch 70 0 4 #[35, 42, 49, 56, 63], 35) := by decide +kernel
theorem dX3_count_68 : decode cX3_count 68 = .ok (.aload_n 0, 1) := by decide +kernel
theorem dX3_count_69 : decode cX3_count 69 = .ok (.getfield 7, 3) := by decide +kernel
theorem dX3_count_72 : decode cX3_count 72 = .ok (.iload_n 1, 1) := by decide +kernel
theorem dX3_count_73 : decode cX3_count 73 = .ok (.iaload, 1) := by decide +kernel
theorem dX3_count_74 : decode cX3_count 74 = .ok (.ireturn, 1) := by decide +kernel
theorem dX3_count_75 : decode cX3_count 75 = .ok (.aload_n 0, 1) := by decide +kernel
theorem dX3_count_76 : decode cX3_count 76 = .ok (.getfield 13, 3) := by decide +kernel
theorem dX3_count_79 : decode cX3_count 79 = .ok (.iload_n 1, 1) := by decide +kernel
theorem dX3_count_80 : decode cX3_count 80 = .ok (.iaload, 1) := by decide +kernel
theorem dX3_count_81 : decode cX3_count 81 = .ok (.ireturn, 1) := by decide +kernel
theorem dX3_count_82 : decode cX3_count 82 = .ok (.aload_n 0, 1) := by decide +kernel
theorem dX3_count_83 : decode cX3_count 83 = .ok (.getfield 23, 3) := by decide +kernel
theorem dX3_count_86 : decode cX3_count 86 = .ok (.iload_n 1, 1) := by decide +kernel
theorem dX3_count_87 : decode cX3_count 87 = .ok (.iaload, 1) := by decide +kernel
theorem dX3_count_88 : decode cX3_count 88 = .ok (.ireturn, 1) := by decide +kernel
theorem dX3_count_89 : decode cX3_count 89 = .ok (.aload_n 0, 1) := by decide +kernel
theorem dX3_count_90 : decode cX3_count 90 = .ok (.getfield 29, 3) := by decide +kernel
theorem dX3_count_93 : decode cX3_count 93 = .ok (.iload_n 1, 1) := by decide +kernel
theorem dX3_count_94 : decode cX3_count 94 = .ok (.iaload, 1) := by decide +kernel
theorem dX3_count_95 : decode cX3_count 95 = .ok (.ireturn, 1) := by decide +kernel
theorem dX3_count_96 : decode cX3_count 96 = .ok (.aload_n 0, 1) := by decide +kernel
theorem dX3_count_97 : decode cX3_count 97 = .ok (.getfield 32, 3) := by decide +kernel
theorem dX3_count_100 : decode cX3_count 100 = .ok (.iload_n 1, 1) := by decide +kernel
theorem dX3_count_101 : decode cX3_count 101 = .ok (.iaload, 1) := by decide +kernel
theorem dX3_count_102 : decode cX3_count 102 = .ok (.ireturn, 1) := by decide +kernel
theorem dX3_count_103 : decode cX3_count 103 = .ok (.aload_n 0, 1) := by decide +kernel
theorem dX3_count_104 : decode cX3_count 104 = .ok (.getfield 7, 3) := by decide +kernel
theorem dX3_count_107 : decode cX3_count 107 = .ok (.iload_n 1, 1) := by decide +kernel
theorem dX3_count_108 : decode cX3_count 108 = .ok (.iaload, 1) := by decide +kernel
theorem dX3_count_109 : decode cX3_count 109 = .ok (.iconst 2, 1) := by decide +kernel
theorem dX3_count_110 : decode cX3_count 110 = .ok (.if_icmp .ne 12, 3) := by decide +kernel
theorem dX3_count_113 : decode cX3_count 113 = .ok (.aload_n 0, 1) := by decide +kernel
theorem dX3_count_114 : decode cX3_count 114 = .ok (.getfield 35, 3) := by decide +kernel
theorem dX3_count_117 : decode cX3_count 117 = .ok (.iload_n 1, 1) := by decide +kernel
theorem dX3_count_118 : decode cX3_count 118 = .ok (.iaload, 1) := by decide +kernel
theorem dX3_count_119 : decode cX3_count 119 = .ok (.goto 4, 3) := by decide +kernel
theorem dX3_count_122 : decode cX3_count 122 = .ok (.iconst 0, 1) := by decide +kernel
theorem dX3_count_123 : decode cX3_count 123 = .ok (.ireturn, 1) := by decide +kernel
set_option maxRecDepth 20000 in
theorem ggX3_word_X3_refused : GoodIn wsX3_word wsX3_refused := goodIn_r _ [7, 8, 9, 10, 11, 12, 13, 14, 15, 16, 17, 18, 19, 20, 21, 22, 23, 24, 25, 26, 27, 28] (by rfl) (by decide +kernel)
set_option maxRecDepth 20000 in
theorem gX3_word_X3_refused : GoodIn wsX3_word (wsV RX3 73 RX3 yX3_refused wsX3_refused) := goodIn_app (goodIn_of _ (by decide +kernel)) ggX3_word_X3_refused
theorem dX3_word_0 : decode cX3_word 0 = .ok (.aload_n 0, 1) := by decide +kernel
theorem dX3_word_1 : decode cX3_word 1 = .ok (.iload_n 1, 1) := by decide +kernel
theorem dX3_word_2 : decode cX3_word 2 = .ok (.ifCond .lt 17, 3) := by decide +kernel
theorem dX3_word_5 : decode cX3_word 5 = .ok (.iload_n 1, 1) := by decide +kernel
theorem dX3_word_6 : decode cX3_word 6 = .ok (.aload_n 0, 1) := by decide +kernel
theorem dX3_word_7 : decode cX3_word 7 = .ok (.getfield 63, 3) := by decide +kernel
theorem dX3_word_10 : decode cX3_word 10 = .ok (.iconst 3, 1) := by decide +kernel
theorem dX3_word_11 : decode cX3_word 11 = .ok (.isub, 1) := by decide +kernel
theorem dX3_word_12 : decode cX3_word 12 = .ok (.if_icmp .ge 7, 3) := by decide +kernel
theorem dX3_word_15 : decode cX3_word 15 = .ok (.iconst 0, 1) := by decide +kernel
theorem dX3_word_16 : decode cX3_word 16 = .ok (.goto 4, 3) := by decide +kernel
theorem dX3_word_19 : decode cX3_word 19 = .ok (.iconst 1, 1) := by decide +kernel
theorem dX3_word_20 : decode cX3_word 20 = .ok (.invokevirtual 73, 3) := by decide +kernel
theorem dX3_word_23 : decode cX3_word 23 = .ok (.ifCond .eq 5, 3) := by decide +kernel
theorem dX3_word_26 : decode cX3_word 26 = .ok (.iconst 0, 1) := by decide +kernel
theorem dX3_word_27 : decode cX3_word 27 = .ok (.ireturn, 1) := by decide +kernel
theorem dX3_word_28 : decode cX3_word 28 = .ok (.aload_n 0, 1) := by decide +kernel
theorem dX3_word_29 : decode cX3_word 29 = .ok (.getfield 47, 3) := by decide +kernel
theorem dX3_word_32 : decode cX3_word 32 = .ok (.iload_n 1, 1) := by decide +kernel
theorem dX3_word_33 : decode cX3_word 33 = .ok (.iaload, 1) := by decide +kernel
theorem dX3_word_34 : decode cX3_word 34 = .ok (.aload_n 0, 1) := by decide +kernel
theorem dX3_word_35 : decode cX3_word 35 = .ok (.getfield 47, 3) := by decide +kernel
theorem dX3_word_38 : decode cX3_word 38 = .ok (.iload_n 1, 1) := by decide +kernel
theorem dX3_word_39 : decode cX3_word 39 = .ok (.iconst 1, 1) := by decide +kernel
theorem dX3_word_40 : decode cX3_word 40 = .ok (.iadd, 1) := by decide +kernel
theorem dX3_word_41 : decode cX3_word 41 = .ok (.iaload, 1) := by decide +kernel
theorem dX3_word_42 : decode cX3_word 42 = .ok (.bipush 8, 2) := by decide +kernel
theorem dX3_word_44 : decode cX3_word 44 = .ok (.ishl, 1) := by decide +kernel
theorem dX3_word_45 : decode cX3_word 45 = .ok (.ior, 1) := by decide +kernel
theorem dX3_word_46 : decode cX3_word 46 = .ok (.aload_n 0, 1) := by decide +kernel
theorem dX3_word_47 : decode cX3_word 47 = .ok (.getfield 47, 3) := by decide +kernel
theorem dX3_word_50 : decode cX3_word 50 = .ok (.iload_n 1, 1) := by decide +kernel
theorem dX3_word_51 : decode cX3_word 51 = .ok (.iconst 2, 1) := by decide +kernel
theorem dX3_word_52 : decode cX3_word 52 = .ok (.iadd, 1) := by decide +kernel
theorem dX3_word_53 : decode cX3_word 53 = .ok (.iaload, 1) := by decide +kernel
theorem dX3_word_54 : decode cX3_word 54 = .ok (.bipush 16, 2) := by decide +kernel
theorem dX3_word_56 : decode cX3_word 56 = .ok (.ishl, 1) := by decide +kernel
theorem dX3_word_57 : decode cX3_word 57 = .ok (.ior, 1) := by decide +kernel
theorem dX3_word_58 : decode cX3_word 58 = .ok (.aload_n 0, 1) := by decide +kernel
theorem dX3_word_59 : decode cX3_word 59 = .ok (.getfield 47, 3) := by decide +kernel
theorem dX3_word_62 : decode cX3_word 62 = .ok (.iload_n 1, 1) := by decide +kernel
theorem dX3_word_63 : decode cX3_word 63 = .ok (.iconst 3, 1) := by decide +kernel
theorem dX3_word_64 : decode cX3_word 64 = .ok (.iadd, 1) := by decide +kernel
theorem dX3_word_65 : decode cX3_word 65 = .ok (.iaload, 1) := by decide +kernel
theorem dX3_word_66 : decode cX3_word 66 = .ok (.bipush 24, 2) := by decide +kernel
theorem dX3_word_68 : decode cX3_word 68 = .ok (.ishl, 1) := by decide +kernel
theorem dX3_word_69 : decode cX3_word 69 = .ok (.ior, 1) := by decide +kernel
theorem dX3_word_70 : decode cX3_word 70 = .ok (.ireturn, 1) := by decide +kernel
set_option maxRecDepth 20000 in
theorem ggL_filter_X2_filter : GoodIn wsL_filter wsX2_filter := goodIn_ca (goodIn_r _ [6, 7, 8, 9, 10, 11, 12, 13, 14, 15, 16, 17, 18, 19, 5, 20, 21, 22, 23, 24, 25, 26, 27, 28, 29, 30, 31, 32, 33, 34, 35, 36, 37, 38, 39, 40, 41, 42, 43, 44, 45, 46, 47, 48, 49, 50, 51, 52, 53, 54, 55, 56, 57, 58, 59, 60, 61, 62, 63, 64] (by rfl) (by decide +kernel)) (goodIn_sub (fun _ h => List.mem_cons_of_mem _ (List.mem_append_right _ h)) (by decide +kernel))
set_option maxRecDepth 20000 in
theorem gL_filter_X2_filter : GoodIn wsL_filter (wsV RL 7 RX2 yX2_filter wsX2_filter) := goodIn_app (goodIn_of _ (by decide +kernel)) ggL_filter_X2_filter
theorem dL_filter_0 : decode cL_filter 0 = .ok (.aload_n 0, 1) := by decide +kernel
theorem dL_filter_1 : decode cL_filter 1 = .ok (.iload_n 1, 1) := by decide +kernel
theorem dL_filter_2 : decode cL_filter 2 = .ok (.iload_n 2, 1) := by decide +kernel
theorem dL_filter_3 : decode cL_filter 3 = .ok (.iload_n 3, 1) := by decide +kernel
theorem dL_filter_4 : decode cL_filter 4 = .ok (.invokevirtual 7, 3) := by decide +kernel
theorem dL_filter_7 : decode cL_filter 7 = .ok (.goto 7, 3) := by decide +kernel
theorem dL_filter_10 : decode cL_filter 10 = .ok (.astore 4, 2) := by decide +kernel
theorem dL_filter_12 : decode cL_filter 12 = .ok (.iconst 1, 1) := by decide +kernel
theorem dL_filter_13 : decode cL_filter 13 = .ok (.ireturn, 1) := by decide +kernel
theorem dL_filter_14 : decode cL_filter 14 = .ok (.iconst 0, 1) := by decide +kernel
theorem dL_filter_15 : decode cL_filter 15 = .ok (.ireturn, 1) := by decide +kernel
set_option maxRecDepth 20000 in
theorem ggL_feed_X2_feed : GoodIn wsL_feed wsX2_feed := goodIn_ca (goodIn_ca (goodIn_r _ [7, 8, 9, 10, 11, 12, 13, 14, 15, 16, 17, 18, 19, 20, 21, 22, 23, 24, 25, 6, 26, 27, 28, 29, 30, 31, 32, 33, 34, 35, 36, 37, 38, 39, 40, 41, 42, 43, 44, 45, 46, 47, 48, 49, 50, 51, 52, 53, 54, 55, 56, 57, 58, 59, 60, 61, 62, 63, 64, 65, 66, 67, 68, 69, 70, 71, 72, 73, 74, 75, 76, 77, 78, 79, 80, 81, 82, 83, 84, 85, 86, 87, 88, 89, 90, 91, 92, 93, 94, 95, 96, 97, 98, 99, 100, 101, 102, 103, 104, 105, 106, 107, 108, 109, 110, 111, 112, 113, 114, 115, 116, 117, 118, 119, 120, 121, 122, 123, 124, 125, 126, 127, 128, 129, 130, 131, 132, 133, 134, 135, 136, 137, 138, 139, 140, 141, 142, 143, 144, 145, 146, 147, 148, 149, 150, 151, 152, 153, 154, 155, 156, 157, 158, 159, 160, 161, 162, 163, 164, 165, 166, 167, 168, 169, 170, 171, 172, 173, 174, 175] (by rfl) (by decide +kernel)) (goodIn_sub (fun _ h => List.mem_cons_of_mem _ (List.mem_append_left _ (List.mem_append_right _ h))) (by decide +kernel))) (goodIn_sub (fun _ h => List.mem_cons_of_mem _ (List.mem_append_right _ h)) (by decide +kernel))
set_option maxRecDepth 20000 in
theorem gL_feed_X2_feed : GoodIn wsL_feed (wsV RL 15 RX2 yX2_feed wsX2_feed) := goodIn_app (goodIn_of _ (by decide +kernel)) ggL_feed_X2_feed
theorem dL_feed_0 : decode cL_feed 0 = .ok (.aload 6, 2) := by decide +kernel
theorem dL_feed_2 : decode cL_feed 2 = .ok (.iconst 0, 1) := by decide +kernel
theorem dL_feed_3 : decode cL_feed 3 = .ok (.aload_n 0, 1) := by decide +kernel
theorem dL_feed_4 : decode cL_feed 4 = .ok (.iload_n 1, 1) := by decide +kernel
theorem dL_feed_5 : decode cL_feed 5 = .ok (.iload_n 2, 1) := by decide +kernel
theorem dL_feed_6 : decode cL_feed 6 = .ok (.iload_n 3, 1) := by decide +kernel
theorem dL_feed_7 : decode cL_feed 7 = .ok (.iload 4, 2) := by decide +kernel
theorem dL_feed_9 : decode cL_feed 9 = .ok (.iload 5, 2) := by decide +kernel
theorem dL_feed_11 : decode cL_feed 11 = .ok (.invokevirtual 15, 3) := by decide +kernel
theorem dL_feed_14 : decode cL_feed 14 = .ok (.i2l, 1) := by decide +kernel
theorem dL_feed_15 : decode cL_feed 15 = .ok (.lastore, 1) := by decide +kernel
theorem dL_feed_16 : decode cL_feed 16 = .ok (.goto 11, 3) := by decide +kernel
theorem dL_feed_19 : decode cL_feed 19 = .ok (.astore 7, 2) := by decide +kernel
theorem dL_feed_21 : decode cL_feed 21 = .ok (.iconst 1, 1) := by decide +kernel
theorem dL_feed_22 : decode cL_feed 22 = .ok (.ireturn, 1) := by decide +kernel
theorem dL_feed_23 : decode cL_feed 23 = .ok (.astore 7, 2) := by decide +kernel
theorem dL_feed_25 : decode cL_feed 25 = .ok (.iconst 2, 1) := by decide +kernel
theorem dL_feed_26 : decode cL_feed 26 = .ok (.ireturn, 1) := by decide +kernel
theorem dL_feed_27 : decode cL_feed 27 = .ok (.iconst 0, 1) := by decide +kernel
theorem dL_feed_28 : decode cL_feed 28 = .ok (.ireturn, 1) := by decide +kernel
set_option maxRecDepth 20000 in
theorem ggL_finish_X2_finish : GoodIn wsL_finish wsX2_finish := goodIn_ca (goodIn_r _ [6, 7, 8, 9, 10, 11, 12, 13, 5, 14, 15, 16, 17, 18, 19, 20, 21, 22, 23, 24, 25, 26, 27, 28, 29, 30, 31, 32, 33, 34, 35, 36, 37, 38, 39, 40, 41, 42, 43, 44, 45, 46, 47, 48, 49, 50, 51, 52, 53, 54, 55, 56, 57, 58, 59, 60, 61, 62, 63, 64, 65, 66, 67, 68, 69, 70, 71, 72, 73, 74, 75, 76, 77, 78, 79, 80, 81, 82, 83, 84, 85, 86, 87, 88, 89, 90, 91, 92, 93, 94, 95, 96, 97, 98, 99, 100, 101, 102, 103, 104, 105, 106, 107, 108, 109, 110, 111, 112, 113, 114, 115, 116, 117, 118, 119, 120, 121, 122, 123, 124, 125, 126, 127, 128, 129, 130, 131, 132, 133, 134, 135, 136, 137, 138, 139, 140, 141, 142, 143, 144, 145, 146, 147, 148, 149, 150, 151, 152, 153, 154, 155, 156, 157, 158, 159, 160, 161, 162, 163, 164, 165, 166, 167] (by rfl) (by decide +kernel)) (goodIn_sub (fun _ h => List.mem_cons_of_mem _ (List.mem_append_right _ h)) (by decide +kernel))
end
section
set_option maxRecDepth 20000 in
theorem gL_finish_X2_finish : GoodIn wsL_finish (wsV RL 21 RX2 yX2_finish wsX2_finish) := goodIn_app (goodIn_of _ (by decide +kernel)) ggL_finish_X2_finish
theorem dL_finish_0 : decode cL_finish 0 = .ok (.aload_n 1, 1) := by decide +kernel
theorem dL_finish_1 : decode cL_finish 1 = .ok (.iconst 0, 1) := by decide +kernel
theorem dL_finish_2 : decode cL_finish 2 = .ok (.aload_n 0, 1) := by decide +kernel
theorem dL_finish_3 : decode cL_finish 3 = .ok (.invokevirtual 21, 3) := by decide +kernel
theorem dL_finish_6 : decode cL_finish 6 = .ok (.i2l, 1) := by decide +kernel
theorem dL_finish_7 : decode cL_finish 7 = .ok (.lastore, 1) := by decide +kernel
theorem dL_finish_8 : decode cL_finish 8 = .ok (.goto 6, 3) := by decide +kernel
theorem dL_finish_11 : decode cL_finish 11 = .ok (.astore_n 2, 1) := by decide +kernel
theorem dL_finish_12 : decode cL_finish 12 = .ok (.iconst 1, 1) := by decide +kernel
theorem dL_finish_13 : decode cL_finish 13 = .ok (.ireturn, 1) := by decide +kernel
theorem dL_finish_14 : decode cL_finish 14 = .ok (.iconst 0, 1) := by decide +kernel
theorem dL_finish_15 : decode cL_finish 15 = .ok (.ireturn, 1) := by decide +kernel
set_option maxRecDepth 20000 in
theorem ggL_count_X2_count : GoodIn wsL_count wsX2_count := goodIn_ca (goodIn_r _ [6, 7, 8, 9, 10, 11, 12, 13, 14, 15, 16, 17, 18, 19, 20, 21, 22, 23, 24, 25, 26, 27, 28, 29, 30, 31, 32, 33, 34, 35] (by rfl) (by decide +kernel)) (goodIn_sub (fun _ h => List.mem_cons_of_mem _ (List.mem_append_right _ h)) (by decide +kernel))
set_option maxRecDepth 20000 in
theorem gL_count_X2_count : GoodIn wsL_count (wsV RL 25 RX2 yX2_count wsX2_count) := goodIn_app (goodIn_of _ (by decide +kernel)) ggL_count_X2_count
theorem dL_count_0 : decode cL_count 0 = .ok (.aload_n 3, 1) := by decide +kernel
theorem dL_count_1 : decode cL_count 1 = .ok (.iconst 0, 1) := by decide +kernel
theorem dL_count_2 : decode cL_count 2 = .ok (.aload_n 0, 1) := by decide +kernel
theorem dL_count_3 : decode cL_count 3 = .ok (.iload_n 1, 1) := by decide +kernel
theorem dL_count_4 : decode cL_count 4 = .ok (.iload_n 2, 1) := by decide +kernel
theorem dL_count_5 : decode cL_count 5 = .ok (.invokevirtual 25, 3) := by decide +kernel
theorem dL_count_8 : decode cL_count 8 = .ok (.i2l, 1) := by decide +kernel
theorem dL_count_9 : decode cL_count 9 = .ok (.lastore, 1) := by decide +kernel
theorem dL_count_10 : decode cL_count 10 = .ok (.goto 7, 3) := by decide +kernel
theorem dL_count_13 : decode cL_count 13 = .ok (.astore 4, 2) := by decide +kernel
theorem dL_count_15 : decode cL_count 15 = .ok (.iconst 1, 1) := by decide +kernel
theorem dL_count_16 : decode cL_count 16 = .ok (.ireturn, 1) := by decide +kernel
theorem dL_count_17 : decode cL_count 17 = .ok (.iconst 0, 1) := by decide +kernel
theorem dL_count_18 : decode cL_count 18 = .ok (.ireturn, 1) := by decide +kernel
set_option maxRecDepth 20000 in
theorem ggL_word_X2_word : GoodIn wsL_word wsX2_word := goodIn_ca (goodIn_r _ [6, 7, 8, 9, 10, 11, 12, 13, 14, 15, 16, 17, 18, 19, 20, 21, 22, 23, 24, 25, 26, 27, 28, 29] (by rfl) (by decide +kernel)) (goodIn_sub (fun _ h => List.mem_cons_of_mem _ (List.mem_append_right _ h)) (by decide +kernel))
set_option maxRecDepth 20000 in
theorem gL_word_X2_word : GoodIn wsL_word (wsV RL 29 RX2 yX2_word wsX2_word) := goodIn_app (goodIn_of _ (by decide +kernel)) ggL_word_X2_word
theorem dL_word_0 : decode cL_word 0 = .ok (.aload_n 2, 1) := by decide +kernel
theorem dL_word_1 : decode cL_word 1 = .ok (.iconst 0, 1) := by decide +kernel
theorem dL_word_2 : decode cL_word 2 = .ok (.aload_n 0, 1) := by decide +kernel
theorem dL_word_3 : decode cL_word 3 = .ok (.iload_n 1, 1) := by decide +kernel
theorem dL_word_4 : decode cL_word 4 = .ok (.invokevirtual 29, 3) := by decide +kernel
theorem dL_word_7 : decode cL_word 7 = .ok (.i2l, 1) := by decide +kernel
theorem dL_word_8 : decode cL_word 8 = .ok (.lastore, 1) := by decide +kernel
theorem dL_word_9 : decode cL_word 9 = .ok (.goto 6, 3) := by decide +kernel
theorem dL_word_12 : decode cL_word 12 = .ok (.astore_n 3, 1) := by decide +kernel
theorem dL_word_13 : decode cL_word 13 = .ok (.iconst 1, 1) := by decide +kernel
theorem dL_word_14 : decode cL_word 14 = .ok (.ireturn, 1) := by decide +kernel
theorem dL_word_15 : decode cL_word 15 = .ok (.iconst 0, 1) := by decide +kernel
theorem dL_word_16 : decode cL_word 16 = .ok (.ireturn, 1) := by decide +kernel
set_option maxRecDepth 20000 in
theorem ggL_law_X2_init : GoodIn wsL_law wsX2_init := goodIn_r _ [9, 10, 11, 12, 13, 14, 15, 16, 17, 18, 19, 20, 21, 22, 23, 24, 25, 26, 27, 28, 29, 30, 31, 32, 33, 34, 35, 36, 37, 38, 39, 40, 41, 42, 43, 44, 45, 46, 47, 48, 49, 50, 51, 52, 396, 397, 398, 399, 400, 401, 402, 423, 424, 425, 426, 427, 428, 429, 430, 431, 432, 433, 434, 435] (by rfl) (by decide +kernel)
set_option maxRecDepth 20000 in
theorem gL_law_X2_init : GoodIn wsL_law (wsX2_init) := ggL_law_X2_init
set_option maxRecDepth 20000 in
theorem ggL_law_X3_init : GoodIn wsL_law wsX3_init := goodIn_r _ [55, 56, 11, 12, 29, 57, 58, 59, 60, 61, 62, 63, 64, 65, 66, 67, 68, 69, 70, 71, 72, 5, 73, 74, 75, 76, 77, 403, 404, 405, 406, 407, 408, 409, 410, 411, 412, 413, 414, 415, 416, 417, 418, 419, 420, 421, 422] (by rfl) (by decide +kernel)
set_option maxRecDepth 20000 in
theorem gL_law_X3_init : GoodIn wsL_law (wsX3_init) := ggL_law_X3_init
set_option maxRecDepth 20000 in
theorem ggL_law_L_filter : GoodIn wsL_law wsL_filter := goodIn_ca (goodIn_r _ [81, 82, 83, 84, 85, 2, 86, 87, 88, 14, 89, 90, 91, 16, 92, 93, 31, 94, 95, 96, 97, 21, 98, 99, 100, 22, 101, 48, 49, 19, 50, 51, 102, 38, 39, 40, 28, 30, 41, 42, 43, 44, 45, 46, 47, 396, 397, 398, 399, 400, 401, 402, 423, 424, 425, 426, 427, 428, 429, 430, 431, 432, 433, 434, 435] (by rfl) (by decide +kernel)) (goodIn_sub (fun _ h => List.mem_append_left _ (List.mem_append_left _ (List.mem_append_right _ h))) (by decide +kernel))
set_option maxRecDepth 20000 in
theorem gL_law_L_filter : GoodIn wsL_law (va_wsS RL 39 yL_filter wsL_filter) := goodIn_app (goodIn_of _ (by decide +kernel)) ggL_law_L_filter
set_option maxRecDepth 20000 in
theorem ggL_law_X3_filter : GoodIn wsL_law wsX3_filter := goodIn_r _ [106, 57, 58, 107, 108, 5, 109, 110, 111, 112, 113, 114, 70, 71, 72, 73, 74, 75, 76, 61, 63, 64, 65, 66, 77, 62, 403, 404, 405, 406, 407, 408, 409, 410, 411, 412, 413, 414, 415, 416, 417, 418, 419, 420, 421, 422] (by rfl) (by decide +kernel)
set_option maxRecDepth 20000 in
theorem gL_law_X3_filter : GoodIn wsL_law (wsV RL 44 RX3 yX3_filter wsX3_filter) := goodIn_app (goodIn_of _ (by decide +kernel)) ggL_law_X3_filter
set_option maxRecDepth 20000 in
theorem ggL_law_X3_thrown : GoodIn wsL_law wsX3_thrown := goodIn_r _ [118, 114, 403, 404, 405, 406, 407, 408, 409, 410, 411, 412, 413, 414, 415, 416, 417, 418, 419, 420, 421, 422] (by rfl) (by decide +kernel)
set_option maxRecDepth 20000 in
theorem gL_law_X3_thrown : GoodIn wsL_law (wsV RL 45 RX3 yX3_thrown wsX3_thrown) := goodIn_app (goodIn_of _ (by decide +kernel)) ggL_law_X3_thrown
set_option maxRecDepth 20000 in
theorem ggL_law_X2_begin : GoodIn wsL_law wsX2_begin := goodIn_r _ [122, 100, 22, 94, 95, 96, 2, 97, 21, 98, 99, 14, 101, 48, 49, 19, 50, 51, 102, 38, 39, 16, 40, 28, 30, 41, 42, 43, 44, 45, 46, 47, 396, 397, 398, 399, 400, 401, 402, 434, 435, 423, 424, 425, 426, 427, 428, 429, 430, 431, 432, 433] (by rfl) (by decide +kernel)
set_option maxRecDepth 20000 in
theorem gL_law_X2_begin : GoodIn wsL_law (wsV RL 48 RX2 yX2_begin wsX2_begin) := goodIn_app (goodIn_of _ (by decide +kernel)) ggL_law_X2_begin
set_option maxRecDepth 20000 in
theorem ggL_law_X3_begin : GoodIn wsL_law wsX3_begin := goodIn_r _ [126, 114, 77, 59, 70, 71, 72, 5, 73, 74, 75, 76, 61, 63, 64, 65, 66, 62, 403, 404, 405, 406, 407, 408, 409, 410, 411, 412, 413, 414, 415, 416, 417, 418, 419, 420, 421, 422] (by rfl) (by decide +kernel)
set_option maxRecDepth 20000 in
theorem gL_law_X3_begin : GoodIn wsL_law (wsV RL 52 RX3 yX3_begin wsX3_begin) := goodIn_app (goodIn_of _ (by decide +kernel)) ggL_law_X3_begin
set_option maxRecDepth 20000 in
theorem ggL_law_L_feed : GoodIn wsL_law wsL_feed := goodIn_ca (goodIn_ca (goodIn_r _ [129, 82, 130, 131, 132, 133, 2, 134, 87, 88, 135, 136, 98, 99, 20, 21, 137, 138, 139, 19, 140, 36, 51, 141, 142, 143, 144, 14, 22, 145, 146, 147, 16, 148, 28, 149, 150, 93, 42, 43, 151, 152, 153, 154, 155, 156, 157, 158, 159, 160, 161, 162, 163, 164, 165, 166, 167, 168, 169, 170, 30, 31, 41, 171, 172, 173, 174, 175, 176, 177, 178, 179, 180, 181, 182, 183, 184, 185, 186, 45, 44, 187, 188, 189, 190, 46, 191, 192, 193, 194, 195, 196, 197, 198, 199, 200, 201, 202, 203, 204, 205, 206, 207, 208, 209, 210, 211, 212, 213, 214, 215, 216, 217, 218, 219, 220, 221, 222, 223, 224, 225, 226, 227, 228, 229, 230, 231, 232, 233, 234, 235, 236, 237, 238, 239, 240, 241, 242, 243, 244, 245, 246, 247, 248, 249, 250, 251, 252, 253, 254, 255, 256, 257, 258, 259, 260, 396, 397, 398, 399, 400, 401, 402, 434, 435, 423, 424, 425, 426, 427, 428, 429, 430, 431, 432, 433] (by rfl) (by decide +kernel)) (goodIn_sub (fun _ h => List.mem_append_left _ (List.mem_append_left _ (List.mem_append_right _ h))) (by decide +kernel))) (goodIn_sub (fun _ h => List.mem_append_left _ (List.mem_append_right _ h)) (by decide +kernel))
set_option maxRecDepth 20000 in
theorem gL_law_L_feed : GoodIn wsL_law (va_wsS RL 53 yL_feed wsL_feed) := goodIn_app (goodIn_of _ (by decide +kernel)) ggL_law_L_feed
set_option maxRecDepth 20000 in
theorem ggL_law_X3_feed : GoodIn wsL_law wsX3_feed := goodIn_r _ [264, 74, 75, 265, 67, 76, 107, 108, 5, 109, 110, 111, 112, 113, 114, 266, 267, 268, 269, 59, 270, 61, 57, 68, 69, 271, 272, 273, 274, 60, 275, 276, 277, 278, 279, 280, 281, 282, 283, 284, 285, 63, 286, 287, 288, 289, 290, 291, 292, 293, 62, 58, 294, 295, 296, 297, 66, 65, 64, 298, 299, 300, 301, 77, 302, 303, 304, 305, 306, 307, 308, 309, 310, 311, 312, 313, 314, 315, 316, 317, 318, 319, 320, 321, 322, 323, 324, 325, 326, 327, 328, 329, 330, 331, 332, 333, 334, 335, 336, 337, 338, 339, 340, 341, 342, 343, 344, 345, 346, 347, 348, 349, 403, 404, 405, 406, 407, 408, 409, 410, 411, 412, 413, 414, 415, 416, 417, 418, 419, 420, 421, 422] (by rfl) (by decide +kernel)
set_option maxRecDepth 20000 in
theorem gL_law_X3_feed : GoodIn wsL_law (wsV RL 56 RX3 yX3_feed wsX3_feed) := goodIn_app (goodIn_of _ (by decide +kernel)) ggL_law_X3_feed
set_option maxRecDepth 20000 in
theorem ggL_law_L_finish : GoodIn wsL_law wsL_finish := goodIn_ca (goodIn_r _ [352, 130, 353, 354, 355, 2, 356, 135, 136, 98, 21, 141, 142, 143, 144, 14, 22, 20, 145, 146, 147, 16, 148, 28, 149, 150, 93, 42, 43, 151, 152, 153, 19, 154, 51, 155, 156, 157, 158, 36, 159, 160, 161, 162, 163, 164, 165, 166, 167, 168, 169, 170, 30, 31, 41, 171, 172, 173, 174, 175, 176, 177, 178, 179, 180, 181, 182, 183, 184, 185, 186, 45, 44, 187, 188, 189, 190, 46, 191, 192, 193, 194, 195, 196, 197, 198, 199, 200, 201, 202, 203, 204, 205, 206, 207, 208, 209, 210, 211, 212, 213, 214, 215, 216, 217, 218, 219, 220, 221, 222, 223, 224, 225, 226, 227, 228, 229, 230, 231, 232, 233, 234, 235, 236, 237, 238, 239, 240, 241, 242, 243, 244, 245, 246, 247, 248, 249, 250, 251, 252, 253, 254, 255, 256, 257, 258, 259, 260, 396, 397, 398, 399, 400, 401, 402, 423, 424, 425, 426, 427, 428, 429, 430, 431, 432, 433, 434, 435] (by rfl) (by decide +kernel)) (goodIn_sub (fun _ h => List.mem_append_left _ (List.mem_append_right _ h)) (by decide +kernel))
set_option maxRecDepth 20000 in
theorem gL_law_L_finish : GoodIn wsL_law (va_wsS RL 57 yL_finish wsL_finish) := goodIn_app (goodIn_of _ (by decide +kernel)) ggL_law_L_finish
set_option maxRecDepth 20000 in
theorem ggL_law_X3_finish : GoodIn wsL_law wsX3_finish := goodIn_r _ [360, 75, 265, 76, 110, 111, 112, 5, 113, 114, 266, 267, 268, 269, 59, 270, 61, 67, 57, 68, 69, 271, 272, 273, 274, 60, 275, 276, 277, 278, 279, 280, 281, 282, 283, 284, 285, 63, 286, 287, 288, 289, 290, 291, 292, 293, 62, 58, 294, 295, 296, 297, 66, 65, 64, 298, 299, 300, 301, 77, 302, 303, 304, 305, 306, 307, 308, 309, 310, 311, 312, 313, 314, 315, 316, 317, 318, 319, 320, 321, 322, 323, 324, 325, 326, 327, 328, 329, 330, 331, 332, 333, 334, 335, 336, 337, 338, 339, 340, 341, 342, 343, 344, 345, 346, 347, 348, 349, 403, 404, 405, 406, 407, 408, 409, 410, 411, 412, 413, 414, 415, 416, 417, 418, 419, 420, 421, 422] (by rfl) (by decide +kernel)
set_option maxRecDepth 20000 in
theorem gL_law_X3_finish : GoodIn wsL_law (wsV RL 60 RX3 yX3_finish wsX3_finish) := goodIn_app (goodIn_of _ (by decide +kernel)) ggL_law_X3_finish
set_option maxRecDepth 20000 in
theorem ggL_law_X2_output : GoodIn wsL_law wsX2_output := goodIn_r _ [364, 21, 259, 152, 153, 19, 154, 51, 365, 172, 173, 174, 36, 396, 397, 398, 399, 400, 401, 402, 434, 435] (by rfl) (by decide +kernel)
set_option maxRecDepth 20000 in
theorem gL_law_X2_output : GoodIn wsL_law (wsV RL 61 RX2 yX2_output wsX2_output) := goodIn_app (goodIn_of _ (by decide +kernel)) ggL_law_X2_output
set_option maxRecDepth 20000 in
theorem ggL_law_X3_output : GoodIn wsL_law wsX3_output := goodIn_r _ [369, 114, 76, 69, 107, 108, 5, 109, 403, 404, 405, 406, 407, 408, 409, 410, 411, 412, 413, 414, 415, 416, 417, 418, 419, 420, 421, 422] (by rfl) (by decide +kernel)
set_option maxRecDepth 20000 in
theorem gL_law_X3_output : GoodIn wsL_law (wsV RL 64 RX3 yX3_output wsX3_output) := goodIn_app (goodIn_of _ (by decide +kernel)) ggL_law_X3_output
set_option maxRecDepth 20000 in
theorem ggL_law_L_count : GoodIn wsL_law wsL_count := goodIn_ca (goodIn_r _ [372, 82, 373, 374, 375, 2, 376, 87, 88, 14, 259, 152, 153, 19, 154, 51, 396, 397, 398, 399, 400, 401, 402, 423, 424, 425, 426, 427, 428, 429, 430, 431, 432, 433, 434, 435] (by rfl) (by decide +kernel)) (goodIn_sub (fun _ h => List.mem_append_left _ (List.mem_append_left _ (List.mem_append_right _ h))) (by decide +kernel))
set_option maxRecDepth 20000 in
theorem gL_law_L_count : GoodIn wsL_law (va_wsS RL 65 yL_count wsL_count) := goodIn_app (goodIn_of _ (by decide +kernel)) ggL_law_L_count
set_option maxRecDepth 20000 in
theorem ggL_law_X3_count : GoodIn wsL_law wsX3_count := goodIn_r _ [380, 57, 58, 61, 63, 64, 65, 107, 108, 5, 109, 110, 111, 112, 113, 114, 403, 404, 405, 406, 407, 408, 409, 410, 411, 412, 413, 414, 415, 416, 417, 418, 419, 420, 421, 422] (by rfl) (by decide +kernel)
set_option maxRecDepth 20000 in
theorem gL_law_X3_count : GoodIn wsL_law (wsV RL 68 RX3 yX3_count wsX3_count) := goodIn_app (goodIn_of _ (by decide +kernel)) ggL_law_X3_count
set_option maxRecDepth 20000 in
theorem ggL_law_L_word : GoodIn wsL_law wsL_word := goodIn_ca (goodIn_r _ [383, 384, 385, 386, 387, 2, 388, 389, 390, 21, 259, 152, 153, 19, 154, 51, 391, 199, 200, 201, 36, 396, 397, 398, 399, 400, 401, 402, 434, 435] (by rfl) (by decide +kernel)) (goodIn_sub (fun _ h => List.mem_append_right _ h) (by decide +kernel))
set_option maxRecDepth 20000 in
theorem gL_law_L_word : GoodIn wsL_law (va_wsS RL 69 yL_word wsL_word) := goodIn_app (goodIn_of _ (by decide +kernel)) ggL_law_L_word
set_option maxRecDepth 20000 in
theorem ggL_law_X3_word : GoodIn wsL_law wsX3_word := goodIn_r _ [395, 76, 69, 110, 111, 112, 5, 113, 114, 403, 404, 405, 406, 407, 408, 409, 410, 411, 412, 413, 414, 415, 416, 417, 418, 419, 420, 421, 422] (by rfl) (by decide +kernel)
set_option maxRecDepth 20000 in
theorem gL_law_X3_word : GoodIn wsL_law (wsV RL 72 RX3 yX3_word wsX3_word) := goodIn_app (goodIn_of _ (by decide +kernel)) ggL_law_X3_word
theorem dL_law_0 : decode cL_law 0 = .ok (.new 8, 3) := by decide +kernel
theorem dL_law_3 : decode cL_law 3 = .ok (.dup, 1) := by decide +kernel
theorem dL_law_4 : decode cL_law 4 = .ok (.invokespecial 35, 3) := by decide +kernel
theorem dL_law_7 : decode cL_law 7 = .ok (.astore_n 1, 1) := by decide +kernel
theorem dL_law_8 : decode cL_law 8 = .ok (.new 36, 3) := by decide +kernel
theorem dL_law_11 : decode cL_law 11 = .ok (.dup, 1) := by decide +kernel
theorem dL_law_12 : decode cL_law 12 = .ok (.invokespecial 38, 3) := by decide +kernel
theorem dL_law_15 : decode cL_law 15 = .ok (.astore_n 2, 1) := by decide +kernel
theorem dL_law_16 : decode cL_law 16 = .ok (.iconst 1, 1) := by decide +kernel
theorem dL_law_17 : decode cL_law 17 = .ok (.newarray .long, 2) := by decide +kernel
theorem dL_law_19 : decode cL_law 19 = .ok (.astore_n 3, 1) := by decide +kernel
theorem dL_law_20 : decode cL_law 20 = .ok (.iconst 0, 1) := by decide +kernel
theorem dL_law_21 : decode cL_law 21 = .ok (.istore 4, 2) := by decide +kernel
theorem dL_law_23 : decode cL_law 23 = .ok (.iload 4, 2) := by decide +kernel
theorem dL_law_25 : decode cL_law 25 = .ok (.aload_n 0, 1) := by decide +kernel
theorem dL_law_26 : decode cL_law 26 = .ok (.arraylength, 1) := by decide +kernel
theorem dL_law_27 : decode cL_law 27 = .ok (.bipush 6, 2) := by decide +kernel
theorem dL_law_29 : decode cL_law 29 = .ok (.isub, 1) := by decide +kernel
theorem dL_law_30 : decode cL_law 30 = .ok (.if_icmp .gt 468, 3) := by decide +kernel
theorem dL_law_33 : decode cL_law 33 = .ok (.aload_n 0, 1) := by decide +kernel
theorem dL_law_34 : decode cL_law 34 = .ok (.iload 4, 2) := by decide +kernel
theorem dL_law_36 : decode cL_law 36 = .ok (.iaload, 1) := by decide +kernel
theorem dL_law_37 : decode cL_law 37 = .ok (.bipush 7, 2) := by decide +kernel
theorem dL_law_39 : decode cL_law 39 = .ok (.iand, 1) := by decide +kernel
theorem dL_law_40 : decode cL_law 40 = .ok (.tableswitch 452 0 6 #[44, 104, 155, 259, 303, 328, 396], 44) := by decide +kernel
theorem dL_law_84 : decode cL_law 84 = .ok (.aload_n 1, 1) := by decide +kernel
theorem dL_law_85 : decode cL_law 85 = .ok (.aload_n 0, 1) := by decide +kernel
theorem dL_law_86 : decode cL_law 86 = .ok (.iload 4, 2) := by decide +kernel
theorem dL_law_88 : decode cL_law 88 = .ok (.iconst 1, 1) := by decide +kernel
theorem dL_law_89 : decode cL_law 89 = .ok (.iadd, 1) := by decide +kernel
theorem dL_law_90 : decode cL_law 90 = .ok (.iaload, 1) := by decide +kernel
theorem dL_law_91 : decode cL_law 91 = .ok (.aload_n 0, 1) := by decide +kernel
theorem dL_law_92 : decode cL_law 92 = .ok (.iload 4, 2) := by decide +kernel
theorem dL_law_94 : decode cL_law 94 = .ok (.iconst 2, 1) := by decide +kernel
theorem dL_law_95 : decode cL_law 95 = .ok (.iadd, 1) := by decide +kernel
theorem dL_law_96 : decode cL_law 96 = .ok (.iaload, 1) := by decide +kernel
theorem dL_law_97 : decode cL_law 97 = .ok (.aload_n 0, 1) := by decide +kernel
theorem dL_law_98 : decode cL_law 98 = .ok (.iload 4, 2) := by decide +kernel
theorem dL_law_100 : decode cL_law 100 = .ok (.iconst 3, 1) := by decide +kernel
theorem dL_law_101 : decode cL_law 101 = .ok (.iadd, 1) := by decide +kernel
theorem dL_law_102 : decode cL_law 102 = .ok (.iaload, 1) := by decide +kernel
theorem dL_law_103 : decode cL_law 103 = .ok (.invokestatic 39, 3) := by decide +kernel
theorem dL_law_106 : decode cL_law 106 = .ok (.istore 5, 2) := by decide +kernel
theorem dL_law_108 : decode cL_law 108 = .ok (.aload_n 2, 1) := by decide +kernel
theorem dL_law_109 : decode cL_law 109 = .ok (.aload_n 0, 1) := by decide +kernel
theorem dL_law_110 : decode cL_law 110 = .ok (.iload 4, 2) := by decide +kernel
theorem dL_law_112 : decode cL_law 112 = .ok (.iconst 1, 1) := by decide +kernel
theorem dL_law_113 : decode cL_law 113 = .ok (.iadd, 1) := by decide +kernel
theorem dL_law_114 : decode cL_law 114 = .ok (.iaload, 1) := by decide +kernel
theorem dL_law_115 : decode cL_law 115 = .ok (.aload_n 0, 1) := by decide +kernel
theorem dL_law_116 : decode cL_law 116 = .ok (.iload 4, 2) := by decide +kernel
theorem dL_law_118 : decode cL_law 118 = .ok (.iconst 2, 1) := by decide +kernel
theorem dL_law_119 : decode cL_law 119 = .ok (.iadd, 1) := by decide +kernel
theorem dL_law_120 : decode cL_law 120 = .ok (.iaload, 1) := by decide +kernel
theorem dL_law_121 : decode cL_law 121 = .ok (.aload_n 0, 1) := by decide +kernel
theorem dL_law_122 : decode cL_law 122 = .ok (.iload 4, 2) := by decide +kernel
theorem dL_law_124 : decode cL_law 124 = .ok (.iconst 3, 1) := by decide +kernel
theorem dL_law_125 : decode cL_law 125 = .ok (.iadd, 1) := by decide +kernel
theorem dL_law_126 : decode cL_law 126 = .ok (.iaload, 1) := by decide +kernel
theorem dL_law_127 : decode cL_law 127 = .ok (.invokevirtual 44, 3) := by decide +kernel
theorem dL_law_130 : decode cL_law 130 = .ok (.aload_n 2, 1) := by decide +kernel
theorem dL_law_131 : decode cL_law 131 = .ok (.invokevirtual 45, 3) := by decide +kernel
theorem dL_law_134 : decode cL_law 134 = .ok (.iload 5, 2) := by decide +kernel
theorem dL_law_136 : decode cL_law 136 = .ok (.if_icmp .eq 5, 3) := by decide +kernel
theorem dL_law_139 : decode cL_law 139 = .ok (.iconst 0, 1) := by decide +kernel
theorem dL_law_140 : decode cL_law 140 = .ok (.ireturn, 1) := by decide +kernel
theorem dL_law_141 : decode cL_law 141 = .ok (.goto 351, 3) := by decide +kernel
theorem dL_law_144 : decode cL_law 144 = .ok (.aload_n 1, 1) := by decide +kernel
theorem dL_law_145 : decode cL_law 145 = .ok (.aload_n 0, 1) := by decide +kernel
theorem dL_law_146 : decode cL_law 146 = .ok (.iload 4, 2) := by decide +kernel
theorem dL_law_148 : decode cL_law 148 = .ok (.iconst 1, 1) := by decide +kernel
theorem dL_law_149 : decode cL_law 149 = .ok (.iadd, 1) := by decide +kernel
theorem dL_law_150 : decode cL_law 150 = .ok (.iaload, 1) := by decide +kernel
theorem dL_law_151 : decode cL_law 151 = .ok (.aload_n 0, 1) := by decide +kernel
theorem dL_law_152 : decode cL_law 152 = .ok (.iload 4, 2) := by decide +kernel
theorem dL_law_154 : decode cL_law 154 = .ok (.iconst 2, 1) := by decide +kernel
theorem dL_law_155 : decode cL_law 155 = .ok (.iadd, 1) := by decide +kernel
theorem dL_law_156 : decode cL_law 156 = .ok (.iaload, 1) := by decide +kernel
theorem dL_law_157 : decode cL_law 157 = .ok (.ifCond .eq 7, 3) := by decide +kernel
theorem dL_law_160 : decode cL_law 160 = .ok (.iconst 1, 1) := by decide +kernel
theorem dL_law_161 : decode cL_law 161 = .ok (.goto 4, 3) := by decide +kernel
theorem dL_law_164 : decode cL_law 164 = .ok (.iconst 0, 1) := by decide +kernel
theorem dL_law_165 : decode cL_law 165 = .ok (.invokevirtual 48, 3) := by decide +kernel
theorem dL_law_168 : decode cL_law 168 = .ok (.aload_n 2, 1) := by decide +kernel
theorem dL_law_169 : decode cL_law 169 = .ok (.aload_n 0, 1) := by decide +kernel
theorem dL_law_170 : decode cL_law 170 = .ok (.iload 4, 2) := by decide +kernel
theorem dL_law_172 : decode cL_law 172 = .ok (.iconst 1, 1) := by decide +kernel
theorem dL_law_173 : decode cL_law 173 = .ok (.iadd, 1) := by decide +kernel
theorem dL_law_174 : decode cL_law 174 = .ok (.iaload, 1) := by decide +kernel
theorem dL_law_175 : decode cL_law 175 = .ok (.aload_n 0, 1) := by decide +kernel
theorem dL_law_176 : decode cL_law 176 = .ok (.iload 4, 2) := by decide +kernel
theorem dL_law_178 : decode cL_law 178 = .ok (.iconst 2, 1) := by decide +kernel
theorem dL_law_179 : decode cL_law 179 = .ok (.iadd, 1) := by decide +kernel
theorem dL_law_180 : decode cL_law 180 = .ok (.iaload, 1) := by decide +kernel
theorem dL_law_181 : decode cL_law 181 = .ok (.ifCond .eq 7, 3) := by decide +kernel
theorem dL_law_184 : decode cL_law 184 = .ok (.iconst 1, 1) := by decide +kernel
theorem dL_law_185 : decode cL_law 185 = .ok (.goto 4, 3) := by decide +kernel
theorem dL_law_188 : decode cL_law 188 = .ok (.iconst 0, 1) := by decide +kernel
theorem dL_law_189 : decode cL_law 189 = .ok (.invokevirtual 52, 3) := by decide +kernel
theorem dL_law_192 : decode cL_law 192 = .ok (.goto 300, 3) := by decide +kernel
theorem dL_law_195 : decode cL_law 195 = .ok (.aload_n 1, 1) := by decide +kernel
theorem dL_law_196 : decode cL_law 196 = .ok (.aload_n 0, 1) := by decide +kernel
theorem dL_law_197 : decode cL_law 197 = .ok (.iload 4, 2) := by decide +kernel
theorem dL_law_199 : decode cL_law 199 = .ok (.iconst 1, 1) := by decide +kernel
theorem dL_law_200 : decode cL_law 200 = .ok (.iadd, 1) := by decide +kernel
theorem dL_law_201 : decode cL_law 201 = .ok (.iaload, 1) := by decide +kernel
theorem dL_law_202 : decode cL_law 202 = .ok (.aload_n 0, 1) := by decide +kernel
theorem dL_law_203 : decode cL_law 203 = .ok (.iload 4, 2) := by decide +kernel
theorem dL_law_205 : decode cL_law 205 = .ok (.iconst 2, 1) := by decide +kernel
theorem dL_law_206 : decode cL_law 206 = .ok (.iadd, 1) := by decide +kernel
theorem dL_law_207 : decode cL_law 207 = .ok (.iaload, 1) := by decide +kernel
theorem dL_law_208 : decode cL_law 208 = .ok (.aload_n 0, 1) := by decide +kernel
theorem dL_law_209 : decode cL_law 209 = .ok (.iload 4, 2) := by decide +kernel
theorem dL_law_211 : decode cL_law 211 = .ok (.iconst 3, 1) := by decide +kernel
theorem dL_law_212 : decode cL_law 212 = .ok (.iadd, 1) := by decide +kernel
theorem dL_law_213 : decode cL_law 213 = .ok (.iaload, 1) := by decide +kernel
theorem dL_law_214 : decode cL_law 214 = .ok (.aload_n 0, 1) := by decide +kernel
theorem dL_law_215 : decode cL_law 215 = .ok (.iload 4, 2) := by decide +kernel
theorem dL_law_217 : decode cL_law 217 = .ok (.iconst 4, 1) := by decide +kernel
theorem dL_law_218 : decode cL_law 218 = .ok (.iadd, 1) := by decide +kernel
theorem dL_law_219 : decode cL_law 219 = .ok (.iaload, 1) := by decide +kernel
theorem dL_law_220 : decode cL_law 220 = .ok (.aload_n 0, 1) := by decide +kernel
theorem dL_law_221 : decode cL_law 221 = .ok (.iload 4, 2) := by decide +kernel
theorem dL_law_223 : decode cL_law 223 = .ok (.iconst 5, 1) := by decide +kernel
theorem dL_law_224 : decode cL_law 224 = .ok (.iadd, 1) := by decide +kernel
theorem dL_law_225 : decode cL_law 225 = .ok (.iaload, 1) := by decide +kernel
theorem dL_law_226 : decode cL_law 226 = .ok (.aload_n 3, 1) := by decide +kernel
theorem dL_law_227 : decode cL_law 227 = .ok (.invokestatic 53, 3) := by decide +kernel
theorem dL_law_230 : decode cL_law 230 = .ok (.istore 5, 2) := by decide +kernel
theorem dL_law_232 : decode cL_law 232 = .ok (.aload_n 2, 1) := by decide +kernel
theorem dL_law_233 : decode cL_law 233 = .ok (.aload_n 0, 1) := by decide +kernel
theorem dL_law_234 : decode cL_law 234 = .ok (.iload 4, 2) := by decide +kernel
theorem dL_law_236 : decode cL_law 236 = .ok (.iconst 1, 1) := by decide +kernel
theorem dL_law_237 : decode cL_law 237 = .ok (.iadd, 1) := by decide +kernel
theorem dL_law_238 : decode cL_law 238 = .ok (.iaload, 1) := by decide +kernel
theorem dL_law_239 : decode cL_law 239 = .ok (.aload_n 0, 1) := by decide +kernel
theorem dL_law_240 : decode cL_law 240 = .ok (.iload 4, 2) := by decide +kernel
theorem dL_law_242 : decode cL_law 242 = .ok (.iconst 2, 1) := by decide +kernel
theorem dL_law_243 : decode cL_law 243 = .ok (.iadd, 1) := by decide +kernel
theorem dL_law_244 : decode cL_law 244 = .ok (.iaload, 1) := by decide +kernel
theorem dL_law_245 : decode cL_law 245 = .ok (.aload_n 0, 1) := by decide +kernel
theorem dL_law_246 : decode cL_law 246 = .ok (.iload 4, 2) := by decide +kernel
theorem dL_law_248 : decode cL_law 248 = .ok (.iconst 3, 1) := by decide +kernel
theorem dL_law_249 : decode cL_law 249 = .ok (.iadd, 1) := by decide +kernel
theorem dL_law_250 : decode cL_law 250 = .ok (.iaload, 1) := by decide +kernel
theorem dL_law_251 : decode cL_law 251 = .ok (.aload_n 0, 1) := by decide +kernel
theorem dL_law_252 : decode cL_law 252 = .ok (.iload 4, 2) := by decide +kernel
theorem dL_law_254 : decode cL_law 254 = .ok (.iconst 4, 1) := by decide +kernel
theorem dL_law_255 : decode cL_law 255 = .ok (.iadd, 1) := by decide +kernel
theorem dL_law_256 : decode cL_law 256 = .ok (.iaload, 1) := by decide +kernel
theorem dL_law_257 : decode cL_law 257 = .ok (.aload_n 0, 1) := by decide +kernel
theorem dL_law_258 : decode cL_law 258 = .ok (.iload 4, 2) := by decide +kernel
theorem dL_law_260 : decode cL_law 260 = .ok (.iconst 5, 1) := by decide +kernel
theorem dL_law_261 : decode cL_law 261 = .ok (.iadd, 1) := by decide +kernel
theorem dL_law_262 : decode cL_law 262 = .ok (.iaload, 1) := by decide +kernel
theorem dL_law_263 : decode cL_law 263 = .ok (.invokevirtual 56, 3) := by decide +kernel
theorem dL_law_266 : decode cL_law 266 = .ok (.istore 6, 2) := by decide +kernel
theorem dL_law_268 : decode cL_law 268 = .ok (.aload_n 2, 1) := by decide +kernel
theorem dL_law_269 : decode cL_law 269 = .ok (.invokevirtual 45, 3) := by decide +kernel
theorem dL_law_272 : decode cL_law 272 = .ok (.iload 5, 2) := by decide +kernel
theorem dL_law_274 : decode cL_law 274 = .ok (.if_icmp .eq 5, 3) := by decide +kernel
theorem dL_law_277 : decode cL_law 277 = .ok (.iconst 0, 1) := by decide +kernel
theorem dL_law_278 : decode cL_law 278 = .ok (.ireturn, 1) := by decide +kernel
theorem dL_law_279 : decode cL_law 279 = .ok (.iload 5, 2) := by decide +kernel
theorem dL_law_281 : decode cL_law 281 = .ok (.ifCond .ne 15, 3) := by decide +kernel
theorem dL_law_284 : decode cL_law 284 = .ok (.aload_n 3, 1) := by decide +kernel
theorem dL_law_285 : decode cL_law 285 = .ok (.iconst 0, 1) := by decide +kernel
theorem dL_law_286 : decode cL_law 286 = .ok (.laload, 1) := by decide +kernel
theorem dL_law_287 : decode cL_law 287 = .ok (.iload 6, 2) := by decide +kernel
theorem dL_law_289 : decode cL_law 289 = .ok (.i2l, 1) := by decide +kernel
theorem dL_law_290 : decode cL_law 290 = .ok (.lcmp, 1) := by decide +kernel
theorem dL_law_291 : decode cL_law 291 = .ok (.ifCond .eq 5, 3) := by decide +kernel
theorem dL_law_294 : decode cL_law 294 = .ok (.iconst 0, 1) := by decide +kernel
theorem dL_law_295 : decode cL_law 295 = .ok (.ireturn, 1) := by decide +kernel
theorem dL_law_296 : decode cL_law 296 = .ok (.goto 196, 3) := by decide +kernel
theorem dL_law_299 : decode cL_law 299 = .ok (.aload_n 1, 1) := by decide +kernel
theorem dL_law_300 : decode cL_law 300 = .ok (.aload_n 3, 1) := by decide +kernel
theorem dL_law_301 : decode cL_law 301 = .ok (.invokestatic 57, 3) := by decide +kernel
theorem dL_law_304 : decode cL_law 304 = .ok (.istore 5, 2) := by decide +kernel
theorem dL_law_306 : decode cL_law 306 = .ok (.aload_n 2, 1) := by decide +kernel
theorem dL_law_307 : decode cL_law 307 = .ok (.invokevirtual 60, 3) := by decide +kernel
theorem dL_law_310 : decode cL_law 310 = .ok (.istore 6, 2) := by decide +kernel
theorem dL_law_312 : decode cL_law 312 = .ok (.aload_n 2, 1) := by decide +kernel
theorem dL_law_313 : decode cL_law 313 = .ok (.invokevirtual 45, 3) := by decide +kernel
theorem dL_law_316 : decode cL_law 316 = .ok (.iload 5, 2) := by decide +kernel
theorem dL_law_318 : decode cL_law 318 = .ok (.if_icmp .eq 5, 3) := by decide +kernel
theorem dL_law_321 : decode cL_law 321 = .ok (.iconst 0, 1) := by decide +kernel
theorem dL_law_322 : decode cL_law 322 = .ok (.ireturn, 1) := by decide +kernel
theorem dL_law_323 : decode cL_law 323 = .ok (.iload 5, 2) := by decide +kernel
theorem dL_law_325 : decode cL_law 325 = .ok (.ifCond .ne 15, 3) := by decide +kernel
theorem dL_law_328 : decode cL_law 328 = .ok (.aload_n 3, 1) := by decide +kernel
theorem dL_law_329 : decode cL_law 329 = .ok (.iconst 0, 1) := by decide +kernel
theorem dL_law_330 : decode cL_law 330 = .ok (.laload, 1) := by decide +kernel
theorem dL_law_331 : decode cL_law 331 = .ok (.iload 6, 2) := by decide +kernel
theorem dL_law_333 : decode cL_law 333 = .ok (.i2l, 1) := by decide +kernel
theorem dL_law_334 : decode cL_law 334 = .ok (.lcmp, 1) := by decide +kernel
theorem dL_law_335 : decode cL_law 335 = .ok (.ifCond .eq 5, 3) := by decide +kernel
theorem dL_law_338 : decode cL_law 338 = .ok (.iconst 0, 1) := by decide +kernel
theorem dL_law_339 : decode cL_law 339 = .ok (.ireturn, 1) := by decide +kernel
theorem dL_law_340 : decode cL_law 340 = .ok (.goto 152, 3) := by decide +kernel
theorem dL_law_343 : decode cL_law 343 = .ok (.aload_n 1, 1) := by decide +kernel
theorem dL_law_344 : decode cL_law 344 = .ok (.aload_n 0, 1) := by decide +kernel
theorem dL_law_345 : decode cL_law 345 = .ok (.iload 4, 2) := by decide +kernel
end
section
theorem dL_law_347 : decode cL_law 347 = .ok (.iconst 1, 1) := by decide +kernel
theorem dL_law_348 : decode cL_law 348 = .ok (.iadd, 1) := by decide +kernel
theorem dL_law_349 : decode cL_law 349 = .ok (.iaload, 1) := by decide +kernel
theorem dL_law_350 : decode cL_law 350 = .ok (.invokevirtual 61, 3) := by decide +kernel
theorem dL_law_353 : decode cL_law 353 = .ok (.aload_n 2, 1) := by decide +kernel
theorem dL_law_354 : decode cL_law 354 = .ok (.aload_n 0, 1) := by decide +kernel
theorem dL_law_355 : decode cL_law 355 = .ok (.iload 4, 2) := by decide +kernel
theorem dL_law_357 : decode cL_law 357 = .ok (.iconst 1, 1) := by decide +kernel
theorem dL_law_358 : decode cL_law 358 = .ok (.iadd, 1) := by decide +kernel
theorem dL_law_359 : decode cL_law 359 = .ok (.iaload, 1) := by decide +kernel
theorem dL_law_360 : decode cL_law 360 = .ok (.invokevirtual 64, 3) := by decide +kernel
theorem dL_law_363 : decode cL_law 363 = .ok (.if_icmp .eq 129, 3) := by decide +kernel
theorem dL_law_366 : decode cL_law 366 = .ok (.iconst 0, 1) := by decide +kernel
theorem dL_law_367 : decode cL_law 367 = .ok (.ireturn, 1) := by decide +kernel
theorem dL_law_368 : decode cL_law 368 = .ok (.aload_n 1, 1) := by decide +kernel
theorem dL_law_369 : decode cL_law 369 = .ok (.aload_n 0, 1) := by decide +kernel
theorem dL_law_370 : decode cL_law 370 = .ok (.iload 4, 2) := by decide +kernel
theorem dL_law_372 : decode cL_law 372 = .ok (.iconst 1, 1) := by decide +kernel
theorem dL_law_373 : decode cL_law 373 = .ok (.iadd, 1) := by decide +kernel
theorem dL_law_374 : decode cL_law 374 = .ok (.iaload, 1) := by decide +kernel
theorem dL_law_375 : decode cL_law 375 = .ok (.aload_n 0, 1) := by decide +kernel
theorem dL_law_376 : decode cL_law 376 = .ok (.iload 4, 2) := by decide +kernel
theorem dL_law_378 : decode cL_law 378 = .ok (.iconst 2, 1) := by decide +kernel
theorem dL_law_379 : decode cL_law 379 = .ok (.iadd, 1) := by decide +kernel
theorem dL_law_380 : decode cL_law 380 = .ok (.iaload, 1) := by decide +kernel
theorem dL_law_381 : decode cL_law 381 = .ok (.aload_n 3, 1) := by decide +kernel
theorem dL_law_382 : decode cL_law 382 = .ok (.invokestatic 65, 3) := by decide +kernel
theorem dL_law_385 : decode cL_law 385 = .ok (.istore 5, 2) := by decide +kernel
theorem dL_law_387 : decode cL_law 387 = .ok (.aload_n 2, 1) := by decide +kernel
theorem dL_law_388 : decode cL_law 388 = .ok (.aload_n 0, 1) := by decide +kernel
theorem dL_law_389 : decode cL_law 389 = .ok (.iload 4, 2) := by decide +kernel
theorem dL_law_391 : decode cL_law 391 = .ok (.iconst 1, 1) := by decide +kernel
theorem dL_law_392 : decode cL_law 392 = .ok (.iadd, 1) := by decide +kernel
theorem dL_law_393 : decode cL_law 393 = .ok (.iaload, 1) := by decide +kernel
theorem dL_law_394 : decode cL_law 394 = .ok (.aload_n 0, 1) := by decide +kernel
theorem dL_law_395 : decode cL_law 395 = .ok (.iload 4, 2) := by decide +kernel
theorem dL_law_397 : decode cL_law 397 = .ok (.iconst 2, 1) := by decide +kernel
theorem dL_law_398 : decode cL_law 398 = .ok (.iadd, 1) := by decide +kernel
theorem dL_law_399 : decode cL_law 399 = .ok (.iaload, 1) := by decide +kernel
theorem dL_law_400 : decode cL_law 400 = .ok (.invokevirtual 68, 3) := by decide +kernel
theorem dL_law_403 : decode cL_law 403 = .ok (.istore 6, 2) := by decide +kernel
theorem dL_law_405 : decode cL_law 405 = .ok (.aload_n 2, 1) := by decide +kernel
theorem dL_law_406 : decode cL_law 406 = .ok (.invokevirtual 45, 3) := by decide +kernel
theorem dL_law_409 : decode cL_law 409 = .ok (.iload 5, 2) := by decide +kernel
theorem dL_law_411 : decode cL_law 411 = .ok (.if_icmp .eq 5, 3) := by decide +kernel
theorem dL_law_414 : decode cL_law 414 = .ok (.iconst 0, 1) := by decide +kernel
theorem dL_law_415 : decode cL_law 415 = .ok (.ireturn, 1) := by decide +kernel
theorem dL_law_416 : decode cL_law 416 = .ok (.iload 5, 2) := by decide +kernel
theorem dL_law_418 : decode cL_law 418 = .ok (.ifCond .ne 15, 3) := by decide +kernel
theorem dL_law_421 : decode cL_law 421 = .ok (.aload_n 3, 1) := by decide +kernel
theorem dL_law_422 : decode cL_law 422 = .ok (.iconst 0, 1) := by decide +kernel
theorem dL_law_423 : decode cL_law 423 = .ok (.laload, 1) := by decide +kernel
theorem dL_law_424 : decode cL_law 424 = .ok (.iload 6, 2) := by decide +kernel
theorem dL_law_426 : decode cL_law 426 = .ok (.i2l, 1) := by decide +kernel
theorem dL_law_427 : decode cL_law 427 = .ok (.lcmp, 1) := by decide +kernel
theorem dL_law_428 : decode cL_law 428 = .ok (.ifCond .eq 5, 3) := by decide +kernel
theorem dL_law_431 : decode cL_law 431 = .ok (.iconst 0, 1) := by decide +kernel
theorem dL_law_432 : decode cL_law 432 = .ok (.ireturn, 1) := by decide +kernel
theorem dL_law_433 : decode cL_law 433 = .ok (.goto 59, 3) := by decide +kernel
theorem dL_law_436 : decode cL_law 436 = .ok (.aload_n 1, 1) := by decide +kernel
theorem dL_law_437 : decode cL_law 437 = .ok (.aload_n 0, 1) := by decide +kernel
theorem dL_law_438 : decode cL_law 438 = .ok (.iload 4, 2) := by decide +kernel
theorem dL_law_440 : decode cL_law 440 = .ok (.iconst 1, 1) := by decide +kernel
theorem dL_law_441 : decode cL_law 441 = .ok (.iadd, 1) := by decide +kernel
theorem dL_law_442 : decode cL_law 442 = .ok (.iaload, 1) := by decide +kernel
theorem dL_law_443 : decode cL_law 443 = .ok (.aload_n 3, 1) := by decide +kernel
theorem dL_law_444 : decode cL_law 444 = .ok (.invokestatic 69, 3) := by decide +kernel
theorem dL_law_447 : decode cL_law 447 = .ok (.istore 5, 2) := by decide +kernel
theorem dL_law_449 : decode cL_law 449 = .ok (.aload_n 2, 1) := by decide +kernel
theorem dL_law_450 : decode cL_law 450 = .ok (.aload_n 0, 1) := by decide +kernel
theorem dL_law_451 : decode cL_law 451 = .ok (.iload 4, 2) := by decide +kernel
theorem dL_law_453 : decode cL_law 453 = .ok (.iconst 1, 1) := by decide +kernel
theorem dL_law_454 : decode cL_law 454 = .ok (.iadd, 1) := by decide +kernel
theorem dL_law_455 : decode cL_law 455 = .ok (.iaload, 1) := by decide +kernel
theorem dL_law_456 : decode cL_law 456 = .ok (.invokevirtual 72, 3) := by decide +kernel
theorem dL_law_459 : decode cL_law 459 = .ok (.istore 6, 2) := by decide +kernel
theorem dL_law_461 : decode cL_law 461 = .ok (.aload_n 2, 1) := by decide +kernel
theorem dL_law_462 : decode cL_law 462 = .ok (.invokevirtual 45, 3) := by decide +kernel
theorem dL_law_465 : decode cL_law 465 = .ok (.iload 5, 2) := by decide +kernel
theorem dL_law_467 : decode cL_law 467 = .ok (.if_icmp .eq 5, 3) := by decide +kernel
theorem dL_law_470 : decode cL_law 470 = .ok (.iconst 0, 1) := by decide +kernel
theorem dL_law_471 : decode cL_law 471 = .ok (.ireturn, 1) := by decide +kernel
theorem dL_law_472 : decode cL_law 472 = .ok (.iload 5, 2) := by decide +kernel
theorem dL_law_474 : decode cL_law 474 = .ok (.ifCond .ne 15, 3) := by decide +kernel
theorem dL_law_477 : decode cL_law 477 = .ok (.aload_n 3, 1) := by decide +kernel
theorem dL_law_478 : decode cL_law 478 = .ok (.iconst 0, 1) := by decide +kernel
theorem dL_law_479 : decode cL_law 479 = .ok (.laload, 1) := by decide +kernel
theorem dL_law_480 : decode cL_law 480 = .ok (.iload 6, 2) := by decide +kernel
theorem dL_law_482 : decode cL_law 482 = .ok (.i2l, 1) := by decide +kernel
theorem dL_law_483 : decode cL_law 483 = .ok (.lcmp, 1) := by decide +kernel
theorem dL_law_484 : decode cL_law 484 = .ok (.ifCond .eq 5, 3) := by decide +kernel
theorem dL_law_487 : decode cL_law 487 = .ok (.iconst 0, 1) := by decide +kernel
theorem dL_law_488 : decode cL_law 488 = .ok (.ireturn, 1) := by decide +kernel
theorem dL_law_489 : decode cL_law 489 = .ok (.goto 3, 3) := by decide +kernel
theorem dL_law_492 : decode cL_law 492 = .ok (.iinc 4 6, 3) := by decide +kernel
theorem dL_law_495 : decode cL_law 495 = .ok (.goto (-472), 3) := by decide +kernel
theorem dL_law_498 : decode cL_law 498 = .ok (.iconst 1, 1) := by decide +kernel
theorem dL_law_499 : decode cL_law 499 = .ok (.ireturn, 1) := by decide +kernel
abbrev vwCl : List vw_C := [(RX0, TX0, 11), (RX1, TX1, 2), (RX2, TX2, 7), (RX3, TX3, 20)]
end
section
/-! my own words: worlds, contracts that name the cells behind them, entry, end, calls -/
abbrev kTy (cI cF cJ : ClassId) : List (ClassId × FieldType) := [(cI, .int), (cF, .object RX0), (cJ, .long)]
def kPre (D : va_G) (tys : List (ClassId × FieldType)) (w0 : va_W) (sz : Nat) (U : State) : Prop := U.heap.size = sz ∧ va_P D vwCl w0 U.heap ∧ va_K D vwCl tys U ∧ va_D (fun _ => True) w0
def kAt (D : va_G) (tys : List (ClassId × FieldType)) (A : Nat → Prop) (w1 : va_W) (t : State) : Prop := va_P D vwCl w1 t.heap ∧ va_K D vwCl tys t ∧ va_D A w1
/-- an int (or boolean) method that makes nothing: cells w0 to w1, the answer r -/
def kI (l : Launch) (y : MethodName) (wy : List Cond) (rm : Room) (D : va_G) (tys : List (ClassId × FieldType)) (av : List Value) (w0 w1 : va_W) (r : Int32) : Prop :=
  ∀ sz : Nat, Met l y wy rm (va_Pc av (kPre D tys w0 sz)) (va_Qi (fun (x : Int32) (_ : Unit) => x = r) (fun _ t => kAt D tys (va_A w0 sz) w1 t) (va_A w0 sz)) 0 0 (va_A w0 sz)
/-- a void method that makes nothing: cells w0 to w1 -/
def kV (l : Launch) (y : MethodName) (wy : List Cond) (rm : Room) (D : va_G) (tys : List (ClassId × FieldType)) (av : List Value) (w0 w1 : va_W) : Prop :=
  ∀ sz : Nat, Met l y wy rm (va_Pc av (kPre D tys w0 sz)) (va_Qv (fun (_ : Unit) => True) (fun _ t => kAt D tys (va_A w0 sz) w1 t) (va_A w0 sz)) 0 0 (va_A w0 sz)
/-- what a walk stands on -/
def kSt (p : Program) (l : Launch) (R : Room) (s : State) (m : MethodId) (args : Array Value) (meth : Method) (c : Code) (cc : ByteArray) (nL : Nat) (ret : Option FieldType) (Ts : List Cond) (own : String) : Prop :=
  p.tables.exec = Jvm.exec ∧ c.code = cc ∧ meth.sig.returnType = ret ∧ c.maxLocals = nL ∧ s.vm.findClass own = some m.cls ∧ (∀ w ∈ Ts, w.before args s = true) ∧ meth.locks = false
theorem kPre_blind {D : va_G} {tys : List (ClassId × FieldType)} {w0 : va_W} {sz : Nat} {av : List Value} : FrameBlind (va_Pc av (kPre D tys w0 sz)) := by
  intro a U g mk q
  obtain ⟨q0, q1, qP, qK, qD⟩ := q
  exact ⟨q0, q1, qP, va_K.moved (u := U) (U := U.calling g mk a) (Vm.Alike.refl U.vm) qK, qD⟩
theorem kI_of {l : Launch} {y : MethodName} {wy wy' : List Cond} {rm : Room} {D : va_G} {tys : List (ClassId × FieldType)} {av : List Value} {w0 w1 : va_W} {r : Int32} {cc : ByteArray} {nL : Nat} {ty : FieldType} {own : String} {lv : List (Nat × Value)}
    (hy : plainName y.cls = true) (ho : y.cls = own) (hw : wy = Cond.code y cc nL (some ty) :: wy') (hlen : (lg_sl av).length ≤ nL) (hlv : lv_args 0 av = lv) (hn : narrow ty (.int r) = .int r)
    (body : ∀ (p : Program) (e : Env) (s : State) (m : MethodId) (args : Array Value) (below : List Frame) (meth : Method) (c : Code) (A : Nat → Prop) (ls : Array Slot) (Q : State → Prop), kSt p l rm s m args meth c cc nL (some ty) wy own → (∀ q : Nat, s.heap.size ≤ q → A q) →
      va_K D vwCl tys s → va_P D vwCl w0 s.heap → va_D A w0 → va_S A s.heap s.heap [] → lv_has ls nL lv →
      (∀ (H1 : Heap) (locs1 : List Loc) (ls1 : Array Slot) (pc1 : Nat) (v : Int32), decode cc pc1 = .ok (.ireturn, 1) → v = r → va_P D vwCl w1 H1 → va_D A w1 → va_S A s.heap H1 locs1 → W p l e rm s m args below meth c H1 locs1 0 0 Q (F0 m pc1 ls1 [.int v])) →
      W p l e rm s m args below meth c s.heap [] 0 0 Q (F0 m 0 ls [])) : kI l y wy rm D tys av w0 w1 r := by
  intro sz
  refine Met.ofW (cc := cc) (maxL := nL) (ret := some ty) hy hw ?_
  intro p e s m args below meth c s₁ B hml hv
  obtain ⟨rfl, hsz, hP, hK, hD0⟩ := hv
  subst hsz
  have hD := hD0.self (sz := s.heap.size)
  have hl := lv_entry av (n := nL) hlen
  rw [lg_entry_eq]
  rw [hlv] at hl
  refine body p e s m _ below meth c _ _ _ ⟨B.exec, B.bytes, B.returns, hml, by rw [← ho]; exact findClass_of_methodNamed B.named, atoms_spec (ws := wy) B.pre, B.notSynchronized⟩ (fun q h => Or.inr h) hK hP hD va_S.rf hl ?_
  intro H1 locs1 ls1 pc1 v hdg hv hP1 hD1 hS1
  exact W.zret (v := v) B.exec B.bytes B.returns (by rw [hv]; exact hn) (fun t ht hW => ⟨⟨v, (), rfl, hv, by rw [ht]; exact hP1, va_K.moved hW.alike hK, hD1⟩, hS1.F ht⟩) hS1.2.2 hdg B.notSynchronized
theorem kV_of {l : Launch} {y : MethodName} {wy wy' : List Cond} {rm : Room} {D : va_G} {tys : List (ClassId × FieldType)} {av : List Value} {w0 w1 : va_W} {cc : ByteArray} {nL : Nat} {own : String} {lv : List (Nat × Value)}
    (hy : plainName y.cls = true) (ho : y.cls = own) (hw : wy = Cond.code y cc nL none :: wy') (hlen : (lg_sl av).length ≤ nL) (hlv : lv_args 0 av = lv)
    (body : ∀ (p : Program) (e : Env) (s : State) (m : MethodId) (args : Array Value) (below : List Frame) (meth : Method) (c : Code) (A : Nat → Prop) (ls : Array Slot) (Q : State → Prop), kSt p l rm s m args meth c cc nL none wy own → (∀ q : Nat, s.heap.size ≤ q → A q) →
      va_K D vwCl tys s → va_P D vwCl w0 s.heap → va_D A w0 → va_S A s.heap s.heap [] → lv_has ls nL lv →
      (∀ (H1 : Heap) (locs1 : List Loc) (ls1 : Array Slot) (pc1 : Nat), decode cc pc1 = .ok (.return_, 1) → va_P D vwCl w1 H1 → va_D A w1 → va_S A s.heap H1 locs1 → W p l e rm s m args below meth c H1 locs1 0 0 Q (F0 m pc1 ls1 [])) →
      W p l e rm s m args below meth c s.heap [] 0 0 Q (F0 m 0 ls [])) : kV l y wy rm D tys av w0 w1 := by
  intro sz
  refine Met.ofW (cc := cc) (maxL := nL) (ret := none) hy hw ?_
  intro p e s m args below meth c s₁ B hml hv
  obtain ⟨rfl, hsz, hP, hK, hD0⟩ := hv
  subst hsz
  have hD := hD0.self (sz := s.heap.size)
  have hl := lv_entry av (n := nL) hlen
  rw [lg_entry_eq]
  rw [hlv] at hl
  refine body p e s m _ below meth c _ _ _ ⟨B.exec, B.bytes, B.returns, hml, by rw [← ho]; exact findClass_of_methodNamed B.named, atoms_spec (ws := wy) B.pre, B.notSynchronized⟩ (fun q h => Or.inr h) hK hP hD va_S.rf hl ?_
  intro H1 locs1 ls1 pc1 hdg hP1 hD1 hS1
  exact W.vret B.exec B.bytes B.returns (fun t ht hW => ⟨⟨(), rfl, trivial, by rw [ht]; exact hP1, va_K.moved hW.alike hK, hD1⟩, hS1.F ht⟩) hS1.2.2 hdg B.notSynchronized
/-- the shift without a sign, as the machine has it -/
def kU (x y : Int32) : Int32 := (x.toUInt32 >>> (y.toUInt32 &&& Int32.toUInt32 31)).toInt32
theorem kFm {α β : Type} (f : α → Option β) : ∀ (l : List α) (w : List β), l.map f = w.map some → l.filterMap f = w
  | [], [], _ => rfl
  | [], _ :: _, h => by simp at h
  | a :: l, [], h => by simp at h
  | a :: l, b :: w, h => by
    simp only [List.map_cons, List.cons.injEq] at h
    rw [List.filterMap_cons, h.1, kFm f l w h.2]
def b5 (x : Int32) : Nat := x.toBitVec.toNat % 32
theorem b5_and (x : Int32) : x &&& 31 = nI (b5 x) := pk_and x 5 (by decide)
theorem b5_lt (x : Int32) : b5 x < 32 := Nat.mod_lt _ (by decide)
theorem kZn {x : Int32} (h : x = 0 ∨ x = 1) : narrow .boolean (.int x) = .int x := by
  rcases h with rfl | rfl <;> decide
theorem kZf {x : Int32} (h : x = 0 ∨ x = 1) : fits .boolean (.int x) = true := by
  rcases h with rfl | rfl <;> decide
theorem kLe {a b : Nat} {x y : Int32} (hx : x = nI a) (hy : y = nI b) (ha : a < 2 ^ 31) (hb : b < 2 ^ 31) : x ≤ y ↔ a ≤ b := by
  subst hx; subst hy; exact nI_leI ha hb
theorem kLt {a b : Nat} {x y : Int32} (hx : x = nI a) (hy : y = nI b) (ha : a < 2 ^ 31) (hb : b < 2 ^ 31) : x < y ↔ a < b := by
  subst hx; subst hy; exact nI_ltI ha hb
theorem kEq {a b : Nat} {x y : Int32} (hx : x = nI a) (hy : y = nI b) (ha : a < 2 ^ 31) (hb : b < 2 ^ 31) : x = y ↔ a = b := by
  subst hx; subst hy; exact nI_eq ha hb
/-- n places from the first on set to 0 -/
def zr (f : Nat → Int32) : Nat → Nat → Int32
  | 0 => f
  | n + 1 => upd (zr f n) n 0
section KW
variable {p : Program} {l : Launch} {e : Env} {R : Room} {s : State} {m : MethodId} {args : Array Value} {below : List Frame} {meth : Method} {c : Code} {H : Heap} {locs : List Loc} {cells slots : Nat} {Q : State → Prop}
variable {cc : ByteArray} {pc : Nat} {ls : Array Slot} {rest : List Value}
/-- the number on top, in another form -/
theorem kTop {x y : Int32} (h : x = y) (k : W p l e R s m args below meth c H locs cells slots Q (F0 m pc ls (.int y :: rest))) : W p l e R s m args below meth c H locs cells slots Q (F0 m pc ls (.int x :: rest)) := by
  rw [h]; exact k
variable {D : va_G} {tys : List (ClassId × FieldType)} {A : Nat → Prop} {H0 : Heap} {ws : va_W} {a : Nat}
/-- an int array read at a number that is a Nat's -/
theorem kIald (hx : p.tables.exec = Jvm.exec) (hb : c.code = cc) (hK : va_K D vwCl tys s) (hP : va_P D vwCl ws H) (q0 t0 : Nat) {cA : ClassId} {n : Nat} {f : Nat → Int32} (ha : ws[q0]? = some (a, .inl (cA, n, .inl f))) (ht : tys[t0]? = some (cA, .int)) {i : Int32} {k : Nat} (hi : i = nI k) (hk : k < n) (hn : n < 2 ^ 31) (hdg : decode cc pc = .ok (.iaload, 1))
    (kk : W p l e R s m args below meth c H locs cells slots Q (F0 m (pc + 1) ls (.int (f k) :: rest))) : W p l e R s m args below meth c H locs cells slots Q (F0 m pc ls (.int i :: .ref a :: rest)) := by
  subst hi
  refine va_iald hx hb hK hP q0 t0 ha ht (vp_in_nI hk hn) hdg ?_
  rw [nI_clamp (by omega)]
  exact kk
theorem kIast (hx : p.tables.exec = Jvm.exec) (hb : c.code = cc) (hK : va_K D vwCl tys s) (hP : va_P D vwCl ws H) (hD : va_D A ws) (hS : va_S A H0 H locs) (q0 t0 : Nat) {cA : ClassId} {n : Nat} {f : Nat → Int32} {ws' : va_W} (ha : ws[q0]? = some (a, .inl (cA, n, .inl f))) (ht : tys[t0]? = some (cA, .int)) {i x : Int32} {k : Nat} (hi : i = nI k) (hk : k < n) (hn : n < 2 ^ 31) (hw : ws.set q0 (a, .inl (cA, n, .inl (upd f k x))) = ws') (hdg : decode cc pc = .ok (.iastore, 1))
    (kk : ∀ (H1 : Heap) (locs1 : List Loc), va_P D vwCl ws' H1 → va_D A ws' → va_S A H0 H1 locs1 → W p l e R s m args below meth c H1 locs1 cells slots Q (F0 m (pc + 1) ls rest)) : W p l e R s m args below meth c H locs cells slots Q (F0 m pc ls (.int x :: .int i :: .ref a :: rest)) := by
  subst hi
  refine va_iast hx hb hK hP hD hS q0 t0 ha ht (vp_in_nI hk hn) hdg ?_
  rw [nI_clamp (by omega), hw]
  exact kk
theorem kPut {own C : String} {T : u_T} {N ci index : Nat} {Ts : List Cond} {ws' : va_W} (hx : p.tables.exec = Jvm.exec) (hb : c.code = cc) (hts : ∀ w ∈ Ts, w.before args s = true) (hin : ∀ w ∈ u_ws C T N, w ∈ Ts) (ty0 : Nat → FieldType) (hty : ∀ k, k < N → parseFieldDescriptor (T k).2.2.1 = some (ty0 k)) (hnm : ∀ a, a < N → ∀ b, b < N → a ≠ b → (T a).2.1 ≠ (T b).2.1) (hown : s.vm.findClass own = some m.cls) (hK : va_K D vwCl tys s) (hP : va_P D vwCl ws H) (hD : va_D A ws) (hS : va_S A H0 H locs) (q0 : Nat) {fs : List Value} (he : ws[q0]? = some (a, .inr (ci, fs))) (hc : vwCl[ci]? = some (C, T, N)) (k : Nat) (hk : k < N) (hlink : (Cond.fieldLink own index (T k).1 (T k).2.1 (T k).2.2.1).before args s = true) (hfin : (T k).2.2.2 = false) {ty : FieldType} {v : Value} (hd : parseFieldDescriptor (T k).2.2.1 = some ty) (hn : narrow ty v = v) (hfit : fits ty v = true) (hl : k < fs.length) (hw : ws.set q0 (a, .inr (ci, fs.set k v)) = ws')
    (hdg : decode cc pc = .ok (.putfield index, 3)) (kk : ∀ (H1 : Heap) (locs1 : List Loc), va_P D vwCl ws' H1 → va_D A ws' → va_S A H0 H1 locs1 → W p l e R s m args below meth c H1 locs1 cells slots Q (F0 m (pc + 3) ls rest)) : W p l e R s m args below meth c H locs cells slots Q (F0 m pc ls (v :: .ref a :: rest)) := by
  refine va_put hx hb hts hin ty0 hty hnm hown hK hP hD hS q0 he hc k hk hlink (fun _ h => h) hfin hd hn hfit hl hdg ?_
  rw [hw]
  exact kk
/-- System.arraycopy of ints -/
theorem kCopy {own : String} {index : Nat} {ws' : va_W} (hx : p.tables.exec = Jvm.exec) (hb : c.code = cc) (hml : c.maxLocals = ls.size) (hown : s.vm.findClass own = some m.cls) (hlink : (Cond.methodLink own index arraycopyName).before args s = true) (hnat : (Cond.native arraycopyName).before args s = true) (hstat : (Cond.static arraycopyName).before args s = true) (hini : (Cond.initialized "java/lang/System").before args s = true)
    (hK : va_K D vwCl tys s) (hP : va_P D vwCl ws H) (hD : va_D A ws) (hS : va_S A H0 H locs) (q0 q1 t0 : Nat) {a0 : Nat} {cA : ClassId} {n0 n1 : Nat} {f g : Nat → Int32} (ha0 : ws[q0]? = some (a0, .inl (cA, n0, .inl f))) (ha1 : ws[q1]? = some (a, .inl (cA, n1, .inl g))) (ht : tys[t0]? = some (cA, .int))
    {isp idp ik : Int32} {sp dp k : Nat} (h1 : isp = nI sp) (h2 : idp = nI dp) (h3 : ik = nI k) (h4 : sp + k ≤ n0) (h5 : dp + k ≤ n1) (h6 : n0 < 2 ^ 31) (h7 : n1 < 2 ^ 31) (hw : ws.set q1 (a, .inl (cA, n1, .inl (va_cpy f g sp dp k))) = ws')
    (hframes : 1 ≤ R.frames) (hlocals : (rest.map fun v => v.category).sum + (nativeFrameWords "java/lang/System" "arraycopy" 5 + 11) ≤ R.locals) (hdg : decode cc pc = .ok (.invokestatic index, 3))
    (kk : ∀ (H1 : Heap) (locs1 : List Loc), va_P D vwCl ws' H1 → va_D A ws' → va_S A H0 H1 locs1 → W p l e R s m args below meth c H1 locs1 cells slots Q (F0 m (pc + 3) ls rest)) : W p l e R s m args below meth c H locs cells slots Q (F0 m pc ls (.int ik :: .int idp :: .ref a :: .int isp :: .ref a0 :: rest)) := by
  subst h1; subst h2; subst h3
  have e1 : (nI sp).toNatClampNeg = sp := nI_clamp (by omega)
  have e2 : (nI dp).toNatClampNeg = dp := nI_clamp (by omega)
  have e3 : (nI k).toNatClampNeg = k := nI_clamp (by omega)
  refine va_copyi hx hb hml hown hlink hnat hstat hini hK hP hD hS q0 q1 t0 t0 ha0 ha1 ht ht rfl (nI_pos (by omega)) (nI_pos (by omega)) (nI_pos (by omega)) (by rw [e1, e3]; exact h4) (by rw [e2, e3]; exact h5) (fun _ _ => rfl) hframes hlocals hdg ?_
  rw [e1, e2, e3, hw]
  exact kk
variable {wc wr w1 ws' : va_W} {y : MethodName} {bytes : ByteArray} {maxL nL n index ci : Nat} {ret : Option FieldType} {wy Ts : List Cond} {rm : Room} {own C : String} {b : Addr} {As : List Value} {fs : List Value} {T : u_T} {N : Nat}
/-- a call of an instance method that answers an int: its cells are cut out, what came back is put beside the rest -/
theorem kCallI {r : Int32} (S : CallFix p m c cc nL s args Ts own) (hM : kI l y wy rm D tys (.ref b :: As) wc w1 r) (cw : CallW R s args own C index y bytes maxL ret wy rm 0 0 n)
    (hK : va_K D vwCl tys s) (hP : va_P D vwCl ws H) (hD : va_D A ws) (hS : va_S A H0 H locs) (hA : ∀ q, H0.size ≤ q → A q) (isC isR perm : List Nat)
    (hC : isC.map (fun i => ws[i]?) = wc.map some) (hnC : va_nd isC = true) (hR : isR.map (fun i => ws[i]?) = wr.map some) (hn : va_nd isR = true) (hdis : ∀ i ∈ isR, i ∉ isC) (hpm : perm.map (fun i => (wr ++ w1)[i]?) = ws'.map some) (hnp : va_nd perm = true)
    (hc : vwCl[ci]? = some (C, T, N)) (he : wc[0]? = some (b, .inr (ci, fs))) (hAs : As.length = n) (hsize : ls.size = nL) (hW : (rest.map fun v => v.category).sum ≤ 8) (hf : cells ≤ R.cells ∧ slots ≤ R.slots) (hdg : decode cc pc = .ok (.invokevirtual index, 3))
    (kk : ∀ (H1 : Heap) (locs1 : List Loc), va_P D vwCl ws' H1 → va_D A ws' → va_S A H0 H1 locs1 → W p l e R s m args below meth c H1 locs1 cells slots Q (F0 m (pc + 3) ls (.int r :: rest))) {st0 : List Value} (hst : st0 = As.reverse ++ .ref b :: rest) : W p l e R s m args below meth c H locs cells slots Q (F0 m pc ls st0) := by
  have hCf : isC.filterMap (fun i => ws[i]?) = wc := kFm _ _ _ hC
  have hPc := hP.sub isC hCf
  have hDc := hD.sub isC hnC hC
  have hFc := va_free hD hS hA isC hC
  subst hst
  refine va_calli (va_runV (As := As) (rest := rest) S (hM H.size) cw ⟨kPre_blind, va_recv hK hPc hc he, fun U hU hW => ⟨rfl, by rw [hU], by rw [hU]; exact hPc, va_K.moved hW.alike hK, hDc.weaken (fun _ _ _ _ => trivial)⟩⟩ rfl hAs hsize rfl (lv_room hW) hdg hf) hS (fun q _ h => hFc q h) hFc (fun r1 u t H1 locs1 ht hvm hw hB hz1 hk1 hS1 => ?_)
  obtain ⟨hP1, hK1, hD1⟩ := hB
  rw [ht] at hP1
  obtain ⟨hP2, hD2⟩ := va_join hP hD isC isR hC hR hn hdis hk1 hFc hP1 hD1
  have hpf : perm.filterMap (fun i => (wr ++ w1)[i]?) = ws' := kFm _ _ _ hpm
  subst hw
  exact kk H1 locs1 (hP2.sub perm hpf) (hD2.sub perm hnp hpm) hS1
theorem kCallV (S : CallFix p m c cc nL s args Ts own) (hM : kV l y wy rm D tys (.ref b :: As) wc w1) (cw : CallW R s args own C index y bytes maxL ret wy rm 0 0 n)
    (hK : va_K D vwCl tys s) (hP : va_P D vwCl ws H) (hD : va_D A ws) (hS : va_S A H0 H locs) (hA : ∀ q, H0.size ≤ q → A q) (isC isR perm : List Nat)
    (hC : isC.map (fun i => ws[i]?) = wc.map some) (hnC : va_nd isC = true) (hR : isR.map (fun i => ws[i]?) = wr.map some) (hn : va_nd isR = true) (hdis : ∀ i ∈ isR, i ∉ isC) (hpm : perm.map (fun i => (wr ++ w1)[i]?) = ws'.map some) (hnp : va_nd perm = true)
    (hc : vwCl[ci]? = some (C, T, N)) (he : wc[0]? = some (b, .inr (ci, fs))) (hAs : As.length = n) (hsize : ls.size = nL) (hW : (rest.map fun v => v.category).sum ≤ 8) (hf : cells ≤ R.cells ∧ slots ≤ R.slots) (hdg : decode cc pc = .ok (.invokevirtual index, 3))
    (kk : ∀ (H1 : Heap) (locs1 : List Loc), va_P D vwCl ws' H1 → va_D A ws' → va_S A H0 H1 locs1 → W p l e R s m args below meth c H1 locs1 cells slots Q (F0 m (pc + 3) ls rest)) {st0 : List Value} (hst : st0 = As.reverse ++ .ref b :: rest) : W p l e R s m args below meth c H locs cells slots Q (F0 m pc ls st0) := by
  have hCf : isC.filterMap (fun i => ws[i]?) = wc := kFm _ _ _ hC
  have hPc := hP.sub isC hCf
  have hDc := hD.sub isC hnC hC
  have hFc := va_free hD hS hA isC hC
  subst hst
  refine va_callv (va_runV (As := As) (rest := rest) S (hM H.size) cw ⟨kPre_blind, va_recv hK hPc hc he, fun U hU hW => ⟨rfl, by rw [hU], by rw [hU]; exact hPc, va_K.moved hW.alike hK, hDc.weaken (fun _ _ _ _ => trivial)⟩⟩ rfl hAs hsize rfl (lv_room hW) hdg hf) hS (fun q _ h => hFc q h) hFc (fun u t H1 locs1 ht hvm hw hB hz1 hk1 hS1 => ?_)
  obtain ⟨hP1, hK1, hD1⟩ := hB
  rw [ht] at hP1
  obtain ⟨hP2, hD2⟩ := va_join hP hD isC isR hC hR hn hdis hk1 hFc hP1 hD1
  have hpf : perm.filterMap (fun i => (wr ++ w1)[i]?) = ws' := kFm _ _ _ hpm
  exact kk H1 locs1 (hP2.sub perm hpf) (hD2.sub perm hnp hpm) hS1
/-- a static call of one's own class that answers an int and looks at no cell -/
theorem kCallS {r : Int32} (S : CallFix p m c cc nL s args Ts own) (hM : kI l y wy rm D tys As [] [] r) (cw : CallB R s args own index y bytes maxL ret wy rm 0 0 n ∧ (Cond.static y).before args s = true)
    (hK : va_K D vwCl tys s) (hP : va_P D vwCl ws H) (hD : va_D A ws) (hS : va_S A H0 H locs) (hA : ∀ q, H0.size ≤ q → A q)
    (hAs : As.length = n) (hsize : ls.size = nL) (hW : (rest.map fun v => v.category).sum ≤ 8) (hf : cells ≤ R.cells ∧ slots ≤ R.slots) (hdg : decode cc pc = .ok (.invokestatic index, 3))
    (kk : ∀ (H1 : Heap) (locs1 : List Loc), va_P D vwCl ws H1 → va_D A ws → va_S A H0 H1 locs1 → W p l e R s m args below meth c H1 locs1 cells slots Q (F0 m (pc + 3) ls (.int r :: rest))) {st0 : List Value} (hst : st0 = As.reverse ++ rest) : W p l e R s m args below meth c H locs cells slots Q (F0 m pc ls st0) := by
  have hPc : va_P D vwCl [] H := hP.sub [] rfl
  have hDc : va_D A [] := hD.sub [] rfl rfl
  have hFc := va_free (wc := []) hD hS hA [] rfl
  subst hst
  refine va_calli (va_runS (As := As) (rest := rest) S (hM H.size) cw ⟨kPre_blind, fun U hU hW => ⟨rfl, by rw [hU], by rw [hU]; exact hPc, va_K.moved hW.alike hK, hDc.weaken (fun _ _ _ _ => trivial)⟩⟩ rfl hAs hsize rfl (lv_room hW) hdg hf) hS (fun q _ h => hFc q h) hFc (fun r1 u t H1 locs1 ht hvm hw hB hz1 hk1 hS1 => ?_)
  subst hw
  refine kk H1 locs1 (hP.kept fun k q hq => hk1 q.1 (hP k q hq).lt ?_) hD hS1
  intro h
  rcases h with ⟨k2, e2, h2⟩ | h2
  · simp at h2
  · exact absurd (hP k q hq).lt (Nat.not_lt.mpr h2)
end KW
end
section
/-! BranchFilters$Row: its methods but the constructor -/

/-- four bytes from k on, the lowest first; the highest first -/
def cLo (f : Nat → Int32) (k : Nat) : Int32 := (((f k ||| f (k + 1) <<< ((8 : Int32) &&& 31)) ||| f (k + 2) <<< ((16 : Int32) &&& 31)) ||| f (k + 3) <<< ((24 : Int32) &&& 31))
def cHi (f : Nat → Int32) (k : Nat) : Int32 := (((f k <<< ((24 : Int32) &&& 31) ||| f (k + 1) <<< ((16 : Int32) &&& 31)) ||| f (k + 2) <<< ((8 : Int32) &&& 31)) ||| f (k + 3))
def cSetLo (f : Nat → Int32) (k : Nat) (v : Int32) : Nat → Int32 := upd (upd (upd (upd f k (v &&& 255)) (k + 1) ((kU v 8) &&& 255)) (k + 2) ((kU v 16) &&& 255)) (k + 3) (kU v 24)
def cSetHi (f : Nat → Int32) (k : Nat) (v : Int32) : Nat → Int32 := upd (upd (upd (upd f k (kU v 24)) (k + 1) ((kU v 16) &&& 255)) (k + 2) ((kU v 8) &&& 255)) (k + 3) (v &&& 255)

set_option maxHeartbeats 4000000 in
set_option maxRecDepth 100000 in
/-- Row.size() -/
theorem c_X1_size (l : Launch) (D : va_G) (cI cF cJ : ClassId) (r rb : Nat) (sz : Int32)  : kI l yX1_size wsX1_size ({ frames := 0, cells := 0, slots := 0, locals := 0 }) D (kTy cI cF cJ) [.ref r] [(r, .inr (1, [.ref rb, .int sz]))] [(r, .inr (1, [.ref rb, .int sz]))] sz := by
  refine kI_of (cc := cX1_size) (nL := 1) (ty := .int) (own := RX1) (lv := [(0, .ref r)]) (by decide) rfl rfl (Nat.le_of_ble_eq_true rfl) rfl (rfl) ?_
  intro p e s m args below meth c A ls Q C hA hK hP hD hS hl hret
  obtain ⟨hx, hb, hr, hml, hown, hts, hlocks⟩ := C
  have k_13 := hts (.fieldLink RX1 13 "BranchFilters$Row" "size" "I") (by decide +kernel)
  have inX1 : ∀ w ∈ wsX10, w ∈ wsX1_size := by decide +kernel
  refine lv_aload_n hx hb dX1_size_0 rfl (lv_at hl 0 rfl) ?_
  refine va_get (D := D) (ci := 1) (v := .int sz) (C := RX1) (T := TX1) (N := 2) hx hb hts inX1 hown hK hP 0 rfl rfl 1 (by decide) k_13 (fun _ h9 => h9) rfl dX1_size_1 ?_
  exact hret _ _ _ _ _ dX1_size_4 (rfl) (hP) (hD) hS

set_option maxHeartbeats 4000000 in
set_option maxRecDepth 100000 in
/-- Row.at(k) -/
theorem c_X1_at (l : Launch) (D : va_G) (cI cF cJ : ClassId) (r rb n k : Nat) (f : Nat → Int32) (sz : Int32) (hk : k < n) (hn : n < 2 ^ 31) : kI l yX1_at wsX1_at ({ frames := 0, cells := 0, slots := 0, locals := 0 }) D (kTy cI cF cJ) [.ref r, .int (nI k)] [(r, .inr (1, [.ref rb, .int sz])), (rb, .inl (cI, n, .inl f))] [(r, .inr (1, [.ref rb, .int sz])), (rb, .inl (cI, n, .inl f))] (f k) := by
  refine kI_of (cc := cX1_at) (nL := 2) (ty := .int) (own := RX1) (lv := [(0, .ref r), (1, .int (nI k))]) (by decide) rfl rfl (Nat.le_of_ble_eq_true rfl) rfl (rfl) ?_
  intro p e s m args below meth c A ls Q C hA hK hP hD hS hl hret
  obtain ⟨hx, hb, hr, hml, hown, hts, hlocks⟩ := C
  have k_7 := hts (.fieldLink RX1 7 "BranchFilters$Row" "bytes" "[I") (by decide +kernel)
  have inX1 : ∀ w ∈ wsX10, w ∈ wsX1_at := by decide +kernel
  refine lv_aload_n hx hb dX1_at_0 rfl (lv_at hl 0 rfl) ?_
  refine va_get (D := D) (ci := 1) (v := .ref rb) (C := RX1) (T := TX1) (N := 2) hx hb hts inX1 hown hK hP 0 rfl rfl 0 (by decide) k_7 (fun _ h9 => h9) rfl dX1_at_1 ?_
  refine lv_iload_n hx hb dX1_at_4 rfl (lv_at hl 1 rfl) ?_
  refine kIald (k := k) hx hb hK hP 1 0 rfl rfl (rfl) (by omega) (by omega) dX1_at_5 ?_
  exact hret _ _ _ _ _ dX1_at_6 (rfl) (hP) (hD) hS

set_option maxHeartbeats 4000000 in
set_option maxRecDepth 100000 in
/-- Row.set(k, v) -/
theorem c_X1_set (l : Launch) (D : va_G) (cI cF cJ : ClassId) (r rb n k : Nat) (f : Nat → Int32) (sz : Int32) (v : Int32) (hk : k < n) (hn : n < 2 ^ 31) : kV l yX1_set wsX1_set ({ frames := 0, cells := 0, slots := 0, locals := 0 }) D (kTy cI cF cJ) [.ref r, .int (nI k), .int v] [(r, .inr (1, [.ref rb, .int sz])), (rb, .inl (cI, n, .inl f))] [(r, .inr (1, [.ref rb, .int sz])), (rb, .inl (cI, n, .inl (upd f k (v &&& 255))))] := by
  refine kV_of (cc := cX1_set) (nL := 3) (own := RX1) (lv := [(0, .ref r), (1, .int (nI k)), (2, .int v)]) (by decide) rfl rfl (Nat.le_of_ble_eq_true rfl) rfl ?_
  intro p e s m args below meth c A ls Q C hA hK hP hD hS hl hret
  obtain ⟨hx, hb, hr, hml, hown, hts, hlocks⟩ := C
  have k_7 := hts (.fieldLink RX1 7 "BranchFilters$Row" "bytes" "[I") (by decide +kernel)
  have inX1 : ∀ w ∈ wsX10, w ∈ wsX1_set := by decide +kernel
  refine lv_aload_n hx hb dX1_set_0 rfl (lv_at hl 0 rfl) ?_
  refine va_get (D := D) (ci := 1) (v := .ref rb) (C := RX1) (T := TX1) (N := 2) hx hb hts inX1 hown hK hP 0 rfl rfl 0 (by decide) k_7 (fun _ h9 => h9) rfl dX1_set_1 ?_
  refine lv_iload_n hx hb dX1_set_4 rfl (lv_at hl 1 rfl) ?_
  refine lv_iload_n hx hb dX1_set_5 rfl (lv_at hl 2 rfl) ?_
  refine lv_sipush (v := 255) hx hb dX1_set_6 (by decide) ?_
  refine lv_iand hx hb dX1_set_9 ?_
  refine kIast (k := k) (ws' := [(r, .inr (1, [.ref rb, .int sz])), (rb, .inl (cI, n, .inl (upd f k (v &&& 255))))]) hx hb hK hP hD hS 1 0 rfl rfl (rfl) (by omega) (by omega) rfl dX1_set_10 (fun H locs hP hD hS => ?_)
  exact hret _ _ _ _ dX1_set_11 (hP) (hD) hS

set_option maxHeartbeats 4000000 in
set_option maxRecDepth 100000 in
/-- Row.add(v) -/
theorem c_X1_add (l : Launch) (D : va_G) (cI cF cJ : ClassId) (r rb n k : Nat) (f : Nat → Int32) (v : Int32) (hk : k < n) (hn : n < 2 ^ 31) : kV l yX1_add wsX1_add ({ frames := 0, cells := 0, slots := 0, locals := 0 }) D (kTy cI cF cJ) [.ref r, .int v] [(r, .inr (1, [.ref rb, .int (nI k)])), (rb, .inl (cI, n, .inl f))] [(r, .inr (1, [.ref rb, .int (nI (k + 1))])), (rb, .inl (cI, n, .inl (upd f k (v &&& 255))))] := by
  refine kV_of (cc := cX1_add) (nL := 2) (own := RX1) (lv := [(0, .ref r), (1, .int v)]) (by decide) rfl rfl (Nat.le_of_ble_eq_true rfl) rfl ?_
  intro p e s m args below meth c A ls Q C hA hK hP hD hS hl hret
  obtain ⟨hx, hb, hr, hml, hown, hts, hlocks⟩ := C
  have k_13 := hts (.fieldLink RX1 13 "BranchFilters$Row" "size" "I") (by decide +kernel)
  have k_7 := hts (.fieldLink RX1 7 "BranchFilters$Row" "bytes" "[I") (by decide +kernel)
  have inX1 : ∀ w ∈ wsX10, w ∈ wsX1_add := by decide +kernel
  refine lv_aload_n hx hb dX1_add_0 rfl (lv_at hl 0 rfl) ?_
  refine va_get (D := D) (ci := 1) (v := .ref rb) (C := RX1) (T := TX1) (N := 2) hx hb hts inX1 hown hK hP 0 rfl rfl 0 (by decide) k_7 (fun _ h9 => h9) rfl dX1_add_1 ?_
  refine lv_aload_n hx hb dX1_add_4 rfl (lv_at hl 0 rfl) ?_
  refine va_get (D := D) (ci := 1) (v := .int (nI k)) (C := RX1) (T := TX1) (N := 2) hx hb hts inX1 hown hK hP 0 rfl rfl 1 (by decide) k_13 (fun _ h9 => h9) rfl dX1_add_5 ?_
  refine lv_iload_n hx hb dX1_add_8 rfl (lv_at hl 1 rfl) ?_
  refine lv_sipush (v := 255) hx hb dX1_add_9 (by decide) ?_
  refine lv_iand hx hb dX1_add_12 ?_
  refine kIast (k := k) (ws' := [(r, .inr (1, [.ref rb, .int (nI k)])), (rb, .inl (cI, n, .inl (upd f k (v &&& 255))))]) hx hb hK hP hD hS 1 0 rfl rfl (rfl) (by omega) (by omega) rfl dX1_add_13 (fun H locs hP hD hS => ?_)
  refine lv_aload_n hx hb dX1_add_14 rfl (lv_at hl 0 rfl) ?_
  refine lv_dup hx hb dX1_add_15 rfl ?_
  refine va_get (D := D) (ci := 1) (v := .int (nI k)) (C := RX1) (T := TX1) (N := 2) hx hb hts inX1 hown hK hP 0 rfl rfl 1 (by decide) k_13 (fun _ h9 => h9) rfl dX1_add_16 ?_
  refine lv_iconst (v := 1) hx hb dX1_add_19 (by decide) ?_
  refine lv_iadd hx hb dX1_add_20 ?_
  refine kTop (y := nI (k + 1)) (nI_add _ 1) ?_
  refine kPut (D := D) (ci := 1) (v := .int (nI (k + 1))) (ty := .int) (C := RX1) (T := TX1) (N := 2) (ws' := [(r, .inr (1, [.ref rb, .int (nI (k + 1))])), (rb, .inl (cI, n, .inl (upd f k (v &&& 255))))]) hx hb hts inX1 tyX1 tyX1_ok nmX1 hown hK hP hD hS 0 rfl rfl 1 (by decide) k_13 rfl (by decide +kernel) (rfl) (by first | rfl | decide) (Nat.le_of_ble_eq_true rfl) rfl dX1_add_21 (fun H locs hP hD hS => ?_)
  exact hret _ _ _ _ dX1_add_24 (hP) (hD) hS

set_option maxHeartbeats 4000000 in
set_option maxRecDepth 100000 in
/-- Row.clear() -/
theorem c_X1_clear (l : Launch) (D : va_G) (cI cF cJ : ClassId) (r rb : Nat) (sz : Int32)  : kV l yX1_clear wsX1_clear ({ frames := 0, cells := 0, slots := 0, locals := 0 }) D (kTy cI cF cJ) [.ref r] [(r, .inr (1, [.ref rb, .int sz]))] [(r, .inr (1, [.ref rb, .int 0]))] := by
  refine kV_of (cc := cX1_clear) (nL := 1) (own := RX1) (lv := [(0, .ref r)]) (by decide) rfl rfl (Nat.le_of_ble_eq_true rfl) rfl ?_
  intro p e s m args below meth c A ls Q C hA hK hP hD hS hl hret
  obtain ⟨hx, hb, hr, hml, hown, hts, hlocks⟩ := C
  have k_13 := hts (.fieldLink RX1 13 "BranchFilters$Row" "size" "I") (by decide +kernel)
  have inX1 : ∀ w ∈ wsX10, w ∈ wsX1_clear := by decide +kernel
  refine lv_aload_n hx hb dX1_clear_0 rfl (lv_at hl 0 rfl) ?_
  refine lv_iconst (v := 0) hx hb dX1_clear_1 (by decide) ?_
  refine kPut (D := D) (ci := 1) (v := .int 0) (ty := .int) (C := RX1) (T := TX1) (N := 2) (ws' := [(r, .inr (1, [.ref rb, .int 0]))]) hx hb hts inX1 tyX1 tyX1_ok nmX1 hown hK hP hD hS 0 rfl rfl 1 (by decide) k_13 rfl (by decide +kernel) (rfl) (by first | rfl | decide) (Nat.le_of_ble_eq_true rfl) rfl dX1_clear_2 (fun H locs hP hD hS => ?_)
  exact hret _ _ _ _ dX1_clear_5 (hP) (hD) hS

set_option maxHeartbeats 4000000 in
set_option maxRecDepth 100000 in
/-- Row.lowestFirst(k) -/
theorem c_X1_lowestFirst (l : Launch) (D : va_G) (cI cF cJ : ClassId) (r rb n k : Nat) (f : Nat → Int32) (sz : Int32) (hk : k + 3 < n) (hn : n < 2 ^ 31) : kI l yX1_lowestFirst wsX1_lowestFirst ({ frames := 0, cells := 0, slots := 0, locals := 0 }) D (kTy cI cF cJ) [.ref r, .int (nI k)] [(r, .inr (1, [.ref rb, .int sz])), (rb, .inl (cI, n, .inl f))] [(r, .inr (1, [.ref rb, .int sz])), (rb, .inl (cI, n, .inl f))] (cLo f k) := by
  refine kI_of (cc := cX1_lowestFirst) (nL := 2) (ty := .int) (own := RX1) (lv := [(0, .ref r), (1, .int (nI k))]) (by decide) rfl rfl (Nat.le_of_ble_eq_true rfl) rfl (rfl) ?_
  intro p e s m args below meth c A ls Q C hA hK hP hD hS hl hret
  obtain ⟨hx, hb, hr, hml, hown, hts, hlocks⟩ := C
  have k_7 := hts (.fieldLink RX1 7 "BranchFilters$Row" "bytes" "[I") (by decide +kernel)
  have inX1 : ∀ w ∈ wsX10, w ∈ wsX1_lowestFirst := by decide +kernel
  refine lv_aload_n hx hb dX1_lowestFirst_0 rfl (lv_at hl 0 rfl) ?_
  refine va_get (D := D) (ci := 1) (v := .ref rb) (C := RX1) (T := TX1) (N := 2) hx hb hts inX1 hown hK hP 0 rfl rfl 0 (by decide) k_7 (fun _ h9 => h9) rfl dX1_lowestFirst_1 ?_
  refine lv_iload_n hx hb dX1_lowestFirst_4 rfl (lv_at hl 1 rfl) ?_
  refine kIald (k := k) hx hb hK hP 1 0 rfl rfl (rfl) (by omega) (by omega) dX1_lowestFirst_5 ?_
  refine lv_aload_n hx hb dX1_lowestFirst_6 rfl (lv_at hl 0 rfl) ?_
  refine va_get (D := D) (ci := 1) (v := .ref rb) (C := RX1) (T := TX1) (N := 2) hx hb hts inX1 hown hK hP 0 rfl rfl 0 (by decide) k_7 (fun _ h9 => h9) rfl dX1_lowestFirst_7 ?_
  refine lv_iload_n hx hb dX1_lowestFirst_10 rfl (lv_at hl 1 rfl) ?_
  refine lv_iconst (v := 1) hx hb dX1_lowestFirst_11 (by decide) ?_
  refine lv_iadd hx hb dX1_lowestFirst_12 ?_
  refine kTop (y := nI (k + 1)) (nI_add _ 1) ?_
  refine kIald (k := (k + 1)) hx hb hK hP 1 0 rfl rfl (rfl) (by omega) (by omega) dX1_lowestFirst_13 ?_
  refine lv_bipush (v := 8) hx hb dX1_lowestFirst_14 (by decide) ?_
  refine lv_ishl hx hb dX1_lowestFirst_16 ?_
  refine lv_ior hx hb dX1_lowestFirst_17 ?_
  refine lv_aload_n hx hb dX1_lowestFirst_18 rfl (lv_at hl 0 rfl) ?_
  refine va_get (D := D) (ci := 1) (v := .ref rb) (C := RX1) (T := TX1) (N := 2) hx hb hts inX1 hown hK hP 0 rfl rfl 0 (by decide) k_7 (fun _ h9 => h9) rfl dX1_lowestFirst_19 ?_
  refine lv_iload_n hx hb dX1_lowestFirst_22 rfl (lv_at hl 1 rfl) ?_
  refine lv_iconst (v := 2) hx hb dX1_lowestFirst_23 (by decide) ?_
  refine lv_iadd hx hb dX1_lowestFirst_24 ?_
  refine kTop (y := nI (k + 2)) (nI_add _ 2) ?_
  refine kIald (k := (k + 2)) hx hb hK hP 1 0 rfl rfl (rfl) (by omega) (by omega) dX1_lowestFirst_25 ?_
  refine lv_bipush (v := 16) hx hb dX1_lowestFirst_26 (by decide) ?_
  refine lv_ishl hx hb dX1_lowestFirst_28 ?_
  refine lv_ior hx hb dX1_lowestFirst_29 ?_
  refine lv_aload_n hx hb dX1_lowestFirst_30 rfl (lv_at hl 0 rfl) ?_
  refine va_get (D := D) (ci := 1) (v := .ref rb) (C := RX1) (T := TX1) (N := 2) hx hb hts inX1 hown hK hP 0 rfl rfl 0 (by decide) k_7 (fun _ h9 => h9) rfl dX1_lowestFirst_31 ?_
  refine lv_iload_n hx hb dX1_lowestFirst_34 rfl (lv_at hl 1 rfl) ?_
  refine lv_iconst (v := 3) hx hb dX1_lowestFirst_35 (by decide) ?_
  refine lv_iadd hx hb dX1_lowestFirst_36 ?_
  refine kTop (y := nI (k + 3)) (nI_add _ 3) ?_
  refine kIald (k := (k + 3)) hx hb hK hP 1 0 rfl rfl (rfl) (by omega) (by omega) dX1_lowestFirst_37 ?_
  refine lv_bipush (v := 24) hx hb dX1_lowestFirst_38 (by decide) ?_
  refine lv_ishl hx hb dX1_lowestFirst_40 ?_
  refine lv_ior hx hb dX1_lowestFirst_41 ?_
  exact hret _ _ _ _ _ dX1_lowestFirst_42 (rfl) (hP) (hD) hS

set_option maxHeartbeats 4000000 in
set_option maxRecDepth 100000 in
/-- Row.highestFirst(k) -/
theorem c_X1_highestFirst (l : Launch) (D : va_G) (cI cF cJ : ClassId) (r rb n k : Nat) (f : Nat → Int32) (sz : Int32) (hk : k + 3 < n) (hn : n < 2 ^ 31) : kI l yX1_highestFirst wsX1_highestFirst ({ frames := 0, cells := 0, slots := 0, locals := 0 }) D (kTy cI cF cJ) [.ref r, .int (nI k)] [(r, .inr (1, [.ref rb, .int sz])), (rb, .inl (cI, n, .inl f))] [(r, .inr (1, [.ref rb, .int sz])), (rb, .inl (cI, n, .inl f))] (cHi f k) := by
  refine kI_of (cc := cX1_highestFirst) (nL := 2) (ty := .int) (own := RX1) (lv := [(0, .ref r), (1, .int (nI k))]) (by decide) rfl rfl (Nat.le_of_ble_eq_true rfl) rfl (rfl) ?_
  intro p e s m args below meth c A ls Q C hA hK hP hD hS hl hret
  obtain ⟨hx, hb, hr, hml, hown, hts, hlocks⟩ := C
  have k_7 := hts (.fieldLink RX1 7 "BranchFilters$Row" "bytes" "[I") (by decide +kernel)
  have inX1 : ∀ w ∈ wsX10, w ∈ wsX1_highestFirst := by decide +kernel
  refine lv_aload_n hx hb dX1_highestFirst_0 rfl (lv_at hl 0 rfl) ?_
  refine va_get (D := D) (ci := 1) (v := .ref rb) (C := RX1) (T := TX1) (N := 2) hx hb hts inX1 hown hK hP 0 rfl rfl 0 (by decide) k_7 (fun _ h9 => h9) rfl dX1_highestFirst_1 ?_
  refine lv_iload_n hx hb dX1_highestFirst_4 rfl (lv_at hl 1 rfl) ?_
  refine kIald (k := k) hx hb hK hP 1 0 rfl rfl (rfl) (by omega) (by omega) dX1_highestFirst_5 ?_
  refine lv_bipush (v := 24) hx hb dX1_highestFirst_6 (by decide) ?_
  refine lv_ishl hx hb dX1_highestFirst_8 ?_
  refine lv_aload_n hx hb dX1_highestFirst_9 rfl (lv_at hl 0 rfl) ?_
  refine va_get (D := D) (ci := 1) (v := .ref rb) (C := RX1) (T := TX1) (N := 2) hx hb hts inX1 hown hK hP 0 rfl rfl 0 (by decide) k_7 (fun _ h9 => h9) rfl dX1_highestFirst_10 ?_
  refine lv_iload_n hx hb dX1_highestFirst_13 rfl (lv_at hl 1 rfl) ?_
  refine lv_iconst (v := 1) hx hb dX1_highestFirst_14 (by decide) ?_
  refine lv_iadd hx hb dX1_highestFirst_15 ?_
  refine kTop (y := nI (k + 1)) (nI_add _ 1) ?_
  refine kIald (k := (k + 1)) hx hb hK hP 1 0 rfl rfl (rfl) (by omega) (by omega) dX1_highestFirst_16 ?_
  refine lv_bipush (v := 16) hx hb dX1_highestFirst_17 (by decide) ?_
  refine lv_ishl hx hb dX1_highestFirst_19 ?_
  refine lv_ior hx hb dX1_highestFirst_20 ?_
  refine lv_aload_n hx hb dX1_highestFirst_21 rfl (lv_at hl 0 rfl) ?_
  refine va_get (D := D) (ci := 1) (v := .ref rb) (C := RX1) (T := TX1) (N := 2) hx hb hts inX1 hown hK hP 0 rfl rfl 0 (by decide) k_7 (fun _ h9 => h9) rfl dX1_highestFirst_22 ?_
  refine lv_iload_n hx hb dX1_highestFirst_25 rfl (lv_at hl 1 rfl) ?_
  refine lv_iconst (v := 2) hx hb dX1_highestFirst_26 (by decide) ?_
  refine lv_iadd hx hb dX1_highestFirst_27 ?_
  refine kTop (y := nI (k + 2)) (nI_add _ 2) ?_
  refine kIald (k := (k + 2)) hx hb hK hP 1 0 rfl rfl (rfl) (by omega) (by omega) dX1_highestFirst_28 ?_
  refine lv_bipush (v := 8) hx hb dX1_highestFirst_29 (by decide) ?_
  refine lv_ishl hx hb dX1_highestFirst_31 ?_
  refine lv_ior hx hb dX1_highestFirst_32 ?_
  refine lv_aload_n hx hb dX1_highestFirst_33 rfl (lv_at hl 0 rfl) ?_
  refine va_get (D := D) (ci := 1) (v := .ref rb) (C := RX1) (T := TX1) (N := 2) hx hb hts inX1 hown hK hP 0 rfl rfl 0 (by decide) k_7 (fun _ h9 => h9) rfl dX1_highestFirst_34 ?_
  refine lv_iload_n hx hb dX1_highestFirst_37 rfl (lv_at hl 1 rfl) ?_
  refine lv_iconst (v := 3) hx hb dX1_highestFirst_38 (by decide) ?_
  refine lv_iadd hx hb dX1_highestFirst_39 ?_
  refine kTop (y := nI (k + 3)) (nI_add _ 3) ?_
  refine kIald (k := (k + 3)) hx hb hK hP 1 0 rfl rfl (rfl) (by omega) (by omega) dX1_highestFirst_40 ?_
  refine lv_ior hx hb dX1_highestFirst_41 ?_
  exact hret _ _ _ _ _ dX1_highestFirst_42 (rfl) (hP) (hD) hS

set_option maxHeartbeats 4000000 in
set_option maxRecDepth 100000 in
/-- Row.setLowestFirst(k, v) -/
theorem c_X1_setLowestFirst (l : Launch) (D : va_G) (cI cF cJ : ClassId) (r rb n k : Nat) (f : Nat → Int32) (sz : Int32) (v : Int32) (hk : k + 3 < n) (hn : n < 2 ^ 31) : kV l yX1_setLowestFirst wsX1_setLowestFirst ({ frames := 0, cells := 0, slots := 0, locals := 0 }) D (kTy cI cF cJ) [.ref r, .int (nI k), .int v] [(r, .inr (1, [.ref rb, .int sz])), (rb, .inl (cI, n, .inl f))] [(r, .inr (1, [.ref rb, .int sz])), (rb, .inl (cI, n, .inl (cSetLo f k v)))] := by
  refine kV_of (cc := cX1_setLowestFirst) (nL := 3) (own := RX1) (lv := [(0, .ref r), (1, .int (nI k)), (2, .int v)]) (by decide) rfl rfl (Nat.le_of_ble_eq_true rfl) rfl ?_
  intro p e s m args below meth c A ls Q C hA hK hP hD hS hl hret
  obtain ⟨hx, hb, hr, hml, hown, hts, hlocks⟩ := C
  have k_7 := hts (.fieldLink RX1 7 "BranchFilters$Row" "bytes" "[I") (by decide +kernel)
  have inX1 : ∀ w ∈ wsX10, w ∈ wsX1_setLowestFirst := by decide +kernel
  refine lv_aload_n hx hb dX1_setLowestFirst_0 rfl (lv_at hl 0 rfl) ?_
  refine va_get (D := D) (ci := 1) (v := .ref rb) (C := RX1) (T := TX1) (N := 2) hx hb hts inX1 hown hK hP 0 rfl rfl 0 (by decide) k_7 (fun _ h9 => h9) rfl dX1_setLowestFirst_1 ?_
  refine lv_iload_n hx hb dX1_setLowestFirst_4 rfl (lv_at hl 1 rfl) ?_
  refine lv_iload_n hx hb dX1_setLowestFirst_5 rfl (lv_at hl 2 rfl) ?_
  refine lv_sipush (v := 255) hx hb dX1_setLowestFirst_6 (by decide) ?_
  refine lv_iand hx hb dX1_setLowestFirst_9 ?_
  refine kIast (k := k) (ws' := [(r, .inr (1, [.ref rb, .int sz])), (rb, .inl (cI, n, .inl (upd f k (v &&& 255))))]) hx hb hK hP hD hS 1 0 rfl rfl (rfl) (by omega) (by omega) rfl dX1_setLowestFirst_10 (fun H locs hP hD hS => ?_)
  refine lv_aload_n hx hb dX1_setLowestFirst_11 rfl (lv_at hl 0 rfl) ?_
  refine va_get (D := D) (ci := 1) (v := .ref rb) (C := RX1) (T := TX1) (N := 2) hx hb hts inX1 hown hK hP 0 rfl rfl 0 (by decide) k_7 (fun _ h9 => h9) rfl dX1_setLowestFirst_12 ?_
  refine lv_iload_n hx hb dX1_setLowestFirst_15 rfl (lv_at hl 1 rfl) ?_
  refine lv_iconst (v := 1) hx hb dX1_setLowestFirst_16 (by decide) ?_
  refine lv_iadd hx hb dX1_setLowestFirst_17 ?_
  refine kTop (y := nI (k + 1)) (nI_add _ 1) ?_
  refine lv_iload_n hx hb dX1_setLowestFirst_18 rfl (lv_at hl 2 rfl) ?_
  refine lv_bipush (v := 8) hx hb dX1_setLowestFirst_19 (by decide) ?_
  refine lv_iushr (v := (kU v 8)) hx hb dX1_setLowestFirst_21 rfl ?_
  refine lv_sipush (v := 255) hx hb dX1_setLowestFirst_22 (by decide) ?_
  refine lv_iand hx hb dX1_setLowestFirst_25 ?_
  refine kIast (k := (k + 1)) (ws' := [(r, .inr (1, [.ref rb, .int sz])), (rb, .inl (cI, n, .inl (upd (upd f k (v &&& 255)) (k + 1) ((kU v 8) &&& 255))))]) hx hb hK hP hD hS 1 0 rfl rfl (rfl) (by omega) (by omega) rfl dX1_setLowestFirst_26 (fun H locs hP hD hS => ?_)
  refine lv_aload_n hx hb dX1_setLowestFirst_27 rfl (lv_at hl 0 rfl) ?_
  refine va_get (D := D) (ci := 1) (v := .ref rb) (C := RX1) (T := TX1) (N := 2) hx hb hts inX1 hown hK hP 0 rfl rfl 0 (by decide) k_7 (fun _ h9 => h9) rfl dX1_setLowestFirst_28 ?_
  refine lv_iload_n hx hb dX1_setLowestFirst_31 rfl (lv_at hl 1 rfl) ?_
  refine lv_iconst (v := 2) hx hb dX1_setLowestFirst_32 (by decide) ?_
  refine lv_iadd hx hb dX1_setLowestFirst_33 ?_
  refine kTop (y := nI (k + 2)) (nI_add _ 2) ?_
  refine lv_iload_n hx hb dX1_setLowestFirst_34 rfl (lv_at hl 2 rfl) ?_
  refine lv_bipush (v := 16) hx hb dX1_setLowestFirst_35 (by decide) ?_
  refine lv_iushr (v := (kU v 16)) hx hb dX1_setLowestFirst_37 rfl ?_
  refine lv_sipush (v := 255) hx hb dX1_setLowestFirst_38 (by decide) ?_
  refine lv_iand hx hb dX1_setLowestFirst_41 ?_
  refine kIast (k := (k + 2)) (ws' := [(r, .inr (1, [.ref rb, .int sz])), (rb, .inl (cI, n, .inl (upd (upd (upd f k (v &&& 255)) (k + 1) ((kU v 8) &&& 255)) (k + 2) ((kU v 16) &&& 255))))]) hx hb hK hP hD hS 1 0 rfl rfl (rfl) (by omega) (by omega) rfl dX1_setLowestFirst_42 (fun H locs hP hD hS => ?_)
  refine lv_aload_n hx hb dX1_setLowestFirst_43 rfl (lv_at hl 0 rfl) ?_
  refine va_get (D := D) (ci := 1) (v := .ref rb) (C := RX1) (T := TX1) (N := 2) hx hb hts inX1 hown hK hP 0 rfl rfl 0 (by decide) k_7 (fun _ h9 => h9) rfl dX1_setLowestFirst_44 ?_
  refine lv_iload_n hx hb dX1_setLowestFirst_47 rfl (lv_at hl 1 rfl) ?_
  refine lv_iconst (v := 3) hx hb dX1_setLowestFirst_48 (by decide) ?_
  refine lv_iadd hx hb dX1_setLowestFirst_49 ?_
  refine kTop (y := nI (k + 3)) (nI_add _ 3) ?_
  refine lv_iload_n hx hb dX1_setLowestFirst_50 rfl (lv_at hl 2 rfl) ?_
  refine lv_bipush (v := 24) hx hb dX1_setLowestFirst_51 (by decide) ?_
  refine lv_iushr (v := (kU v 24)) hx hb dX1_setLowestFirst_53 rfl ?_
  refine kIast (k := (k + 3)) (ws' := [(r, .inr (1, [.ref rb, .int sz])), (rb, .inl (cI, n, .inl (upd (upd (upd (upd f k (v &&& 255)) (k + 1) ((kU v 8) &&& 255)) (k + 2) ((kU v 16) &&& 255)) (k + 3) (kU v 24))))]) hx hb hK hP hD hS 1 0 rfl rfl (rfl) (by omega) (by omega) rfl dX1_setLowestFirst_54 (fun H locs hP hD hS => ?_)
  exact hret _ _ _ _ dX1_setLowestFirst_55 (hP) (hD) hS

set_option maxHeartbeats 4000000 in
set_option maxRecDepth 100000 in
/-- Row.setHighestFirst(k, v) -/
theorem c_X1_setHighestFirst (l : Launch) (D : va_G) (cI cF cJ : ClassId) (r rb n k : Nat) (f : Nat → Int32) (sz : Int32) (v : Int32) (hk : k + 3 < n) (hn : n < 2 ^ 31) : kV l yX1_setHighestFirst wsX1_setHighestFirst ({ frames := 0, cells := 0, slots := 0, locals := 0 }) D (kTy cI cF cJ) [.ref r, .int (nI k), .int v] [(r, .inr (1, [.ref rb, .int sz])), (rb, .inl (cI, n, .inl f))] [(r, .inr (1, [.ref rb, .int sz])), (rb, .inl (cI, n, .inl (cSetHi f k v)))] := by
  refine kV_of (cc := cX1_setHighestFirst) (nL := 3) (own := RX1) (lv := [(0, .ref r), (1, .int (nI k)), (2, .int v)]) (by decide) rfl rfl (Nat.le_of_ble_eq_true rfl) rfl ?_
  intro p e s m args below meth c A ls Q C hA hK hP hD hS hl hret
  obtain ⟨hx, hb, hr, hml, hown, hts, hlocks⟩ := C
  have k_7 := hts (.fieldLink RX1 7 "BranchFilters$Row" "bytes" "[I") (by decide +kernel)
  have inX1 : ∀ w ∈ wsX10, w ∈ wsX1_setHighestFirst := by decide +kernel
  refine lv_aload_n hx hb dX1_setHighestFirst_0 rfl (lv_at hl 0 rfl) ?_
  refine va_get (D := D) (ci := 1) (v := .ref rb) (C := RX1) (T := TX1) (N := 2) hx hb hts inX1 hown hK hP 0 rfl rfl 0 (by decide) k_7 (fun _ h9 => h9) rfl dX1_setHighestFirst_1 ?_
  refine lv_iload_n hx hb dX1_setHighestFirst_4 rfl (lv_at hl 1 rfl) ?_
  refine lv_iload_n hx hb dX1_setHighestFirst_5 rfl (lv_at hl 2 rfl) ?_
  refine lv_bipush (v := 24) hx hb dX1_setHighestFirst_6 (by decide) ?_
  refine lv_iushr (v := (kU v 24)) hx hb dX1_setHighestFirst_8 rfl ?_
  refine kIast (k := k) (ws' := [(r, .inr (1, [.ref rb, .int sz])), (rb, .inl (cI, n, .inl (upd f k (kU v 24))))]) hx hb hK hP hD hS 1 0 rfl rfl (rfl) (by omega) (by omega) rfl dX1_setHighestFirst_9 (fun H locs hP hD hS => ?_)
  refine lv_aload_n hx hb dX1_setHighestFirst_10 rfl (lv_at hl 0 rfl) ?_
  refine va_get (D := D) (ci := 1) (v := .ref rb) (C := RX1) (T := TX1) (N := 2) hx hb hts inX1 hown hK hP 0 rfl rfl 0 (by decide) k_7 (fun _ h9 => h9) rfl dX1_setHighestFirst_11 ?_
  refine lv_iload_n hx hb dX1_setHighestFirst_14 rfl (lv_at hl 1 rfl) ?_
  refine lv_iconst (v := 1) hx hb dX1_setHighestFirst_15 (by decide) ?_
  refine lv_iadd hx hb dX1_setHighestFirst_16 ?_
  refine kTop (y := nI (k + 1)) (nI_add _ 1) ?_
  refine lv_iload_n hx hb dX1_setHighestFirst_17 rfl (lv_at hl 2 rfl) ?_
  refine lv_bipush (v := 16) hx hb dX1_setHighestFirst_18 (by decide) ?_
  refine lv_iushr (v := (kU v 16)) hx hb dX1_setHighestFirst_20 rfl ?_
  refine lv_sipush (v := 255) hx hb dX1_setHighestFirst_21 (by decide) ?_
  refine lv_iand hx hb dX1_setHighestFirst_24 ?_
  refine kIast (k := (k + 1)) (ws' := [(r, .inr (1, [.ref rb, .int sz])), (rb, .inl (cI, n, .inl (upd (upd f k (kU v 24)) (k + 1) ((kU v 16) &&& 255))))]) hx hb hK hP hD hS 1 0 rfl rfl (rfl) (by omega) (by omega) rfl dX1_setHighestFirst_25 (fun H locs hP hD hS => ?_)
  refine lv_aload_n hx hb dX1_setHighestFirst_26 rfl (lv_at hl 0 rfl) ?_
  refine va_get (D := D) (ci := 1) (v := .ref rb) (C := RX1) (T := TX1) (N := 2) hx hb hts inX1 hown hK hP 0 rfl rfl 0 (by decide) k_7 (fun _ h9 => h9) rfl dX1_setHighestFirst_27 ?_
  refine lv_iload_n hx hb dX1_setHighestFirst_30 rfl (lv_at hl 1 rfl) ?_
  refine lv_iconst (v := 2) hx hb dX1_setHighestFirst_31 (by decide) ?_
  refine lv_iadd hx hb dX1_setHighestFirst_32 ?_
  refine kTop (y := nI (k + 2)) (nI_add _ 2) ?_
  refine lv_iload_n hx hb dX1_setHighestFirst_33 rfl (lv_at hl 2 rfl) ?_
  refine lv_bipush (v := 8) hx hb dX1_setHighestFirst_34 (by decide) ?_
  refine lv_iushr (v := (kU v 8)) hx hb dX1_setHighestFirst_36 rfl ?_
  refine lv_sipush (v := 255) hx hb dX1_setHighestFirst_37 (by decide) ?_
  refine lv_iand hx hb dX1_setHighestFirst_40 ?_
  refine kIast (k := (k + 2)) (ws' := [(r, .inr (1, [.ref rb, .int sz])), (rb, .inl (cI, n, .inl (upd (upd (upd f k (kU v 24)) (k + 1) ((kU v 16) &&& 255)) (k + 2) ((kU v 8) &&& 255))))]) hx hb hK hP hD hS 1 0 rfl rfl (rfl) (by omega) (by omega) rfl dX1_setHighestFirst_41 (fun H locs hP hD hS => ?_)
  refine lv_aload_n hx hb dX1_setHighestFirst_42 rfl (lv_at hl 0 rfl) ?_
  refine va_get (D := D) (ci := 1) (v := .ref rb) (C := RX1) (T := TX1) (N := 2) hx hb hts inX1 hown hK hP 0 rfl rfl 0 (by decide) k_7 (fun _ h9 => h9) rfl dX1_setHighestFirst_43 ?_
  refine lv_iload_n hx hb dX1_setHighestFirst_46 rfl (lv_at hl 1 rfl) ?_
  refine lv_iconst (v := 3) hx hb dX1_setHighestFirst_47 (by decide) ?_
  refine lv_iadd hx hb dX1_setHighestFirst_48 ?_
  refine kTop (y := nI (k + 3)) (nI_add _ 3) ?_
  refine lv_iload_n hx hb dX1_setHighestFirst_49 rfl (lv_at hl 2 rfl) ?_
  refine lv_sipush (v := 255) hx hb dX1_setHighestFirst_50 (by decide) ?_
  refine lv_iand hx hb dX1_setHighestFirst_53 ?_
  refine kIast (k := (k + 3)) (ws' := [(r, .inr (1, [.ref rb, .int sz])), (rb, .inl (cI, n, .inl (upd (upd (upd (upd f k (kU v 24)) (k + 1) ((kU v 16) &&& 255)) (k + 2) ((kU v 8) &&& 255)) (k + 3) (v &&& 255))))]) hx hb hK hP hD hS 1 0 rfl rfl (rfl) (by omega) (by omega) rfl dX1_setHighestFirst_54 (fun H locs hP hD hS => ?_)
  exact hret _ _ _ _ dX1_setHighestFirst_55 (hP) (hD) hS

set_option maxHeartbeats 4000000 in
set_option maxRecDepth 100000 in
/-- Row.moveTo(o, k) -/
theorem c_X1_moveTo (l : Launch) (D : va_G) (cI cF cJ : ClassId) (r rb o ob c1 c2 n1 n2 k : Nat) (f g : Nat → Int32) (h1 : k ≤ n1) (h2 : n1 ≤ c1) (h3 : n2 + k ≤ c2) (h4 : c1 < 2 ^ 31) (h5 : c2 < 2 ^ 31) : kV l yX1_moveTo wsX1_moveTo ({ frames := 1, cells := 0, slots := 0, locals := 60 }) D (kTy cI cF cJ) [.ref r, .ref o, .int (nI k)] [(r, .inr (1, [.ref rb, .int (nI n1)])), (rb, .inl (cI, c1, .inl f)), (o, .inr (1, [.ref ob, .int (nI n2)])), (ob, .inl (cI, c2, .inl g))] [(r, .inr (1, [.ref rb, .int (nI (n1 - k))])), (rb, .inl (cI, c1, .inl (va_cpy f f k 0 (n1 - k)))), (o, .inr (1, [.ref ob, .int (nI (n2 + k))])), (ob, .inl (cI, c2, .inl (va_cpy f g 0 n2 k)))] := by
  refine kV_of (cc := cX1_moveTo) (nL := 3) (own := RX1) (lv := [(0, .ref r), (1, .ref o), (2, .int (nI k))]) (by decide) rfl rfl (Nat.le_of_ble_eq_true rfl) rfl ?_
  intro p e s m args below meth c A ls Q C hA hK hP hD hS hl hret
  obtain ⟨hx, hb, hr, hml, hown, hts, hlocks⟩ := C
  have k_13 := hts (.fieldLink RX1 13 "BranchFilters$Row" "size" "I") (by decide +kernel)
  have k_17 := hts (.methodLink RX1 17 arraycopyName) (by decide +kernel)
  have k_7 := hts (.fieldLink RX1 7 "BranchFilters$Row" "bytes" "[I") (by decide +kernel)
  have k_nat := hts (.native arraycopyName) (by decide +kernel)
  have k_stt := hts (.static arraycopyName) (by decide +kernel)
  have k_sys := hts (.initialized "java/lang/System") (by decide +kernel)
  have inX1 : ∀ w ∈ wsX10, w ∈ wsX1_moveTo := by decide +kernel
  refine lv_aload_n hx hb dX1_moveTo_0 rfl (lv_at hl 0 rfl) ?_
  refine va_get (D := D) (ci := 1) (v := .ref rb) (C := RX1) (T := TX1) (N := 2) hx hb hts inX1 hown hK hP 0 rfl rfl 0 (by decide) k_7 (fun _ h9 => h9) rfl dX1_moveTo_1 ?_
  refine lv_iconst (v := 0) hx hb dX1_moveTo_4 (by decide) ?_
  refine lv_aload_n hx hb dX1_moveTo_5 rfl (lv_at hl 1 rfl) ?_
  refine va_get (D := D) (ci := 1) (v := .ref ob) (C := RX1) (T := TX1) (N := 2) hx hb hts inX1 hown hK hP 2 rfl rfl 0 (by decide) k_7 (fun _ h9 => h9) rfl dX1_moveTo_6 ?_
  refine lv_aload_n hx hb dX1_moveTo_9 rfl (lv_at hl 1 rfl) ?_
  refine va_get (D := D) (ci := 1) (v := .int (nI n2)) (C := RX1) (T := TX1) (N := 2) hx hb hts inX1 hown hK hP 2 rfl rfl 1 (by decide) k_13 (fun _ h9 => h9) rfl dX1_moveTo_10 ?_
  refine lv_iload_n hx hb dX1_moveTo_13 rfl (lv_at hl 2 rfl) ?_
  refine kCopy (sp := 0) (dp := n2) (k := k) (ws' := [(r, .inr (1, [.ref rb, .int (nI n1)])), (rb, .inl (cI, c1, .inl f)), (o, .inr (1, [.ref ob, .int (nI n2)])), (ob, .inl (cI, c2, .inl (va_cpy f g 0 n2 k)))]) hx hb (hml.trans hl.1.symm) hown k_17 k_nat k_stt k_sys hK hP hD hS 1 3 0 rfl rfl rfl (by decide) (rfl) (rfl) (by omega) (by omega) (by omega) (by omega) rfl (Nat.le_of_ble_eq_true rfl) (Nat.le_of_ble_eq_true rfl) dX1_moveTo_14 (fun H locs hP hD hS => ?_)
  refine lv_aload_n hx hb dX1_moveTo_17 rfl (lv_at hl 1 rfl) ?_
  refine lv_dup hx hb dX1_moveTo_18 rfl ?_
  refine va_get (D := D) (ci := 1) (v := .int (nI n2)) (C := RX1) (T := TX1) (N := 2) hx hb hts inX1 hown hK hP 2 rfl rfl 1 (by decide) k_13 (fun _ h9 => h9) rfl dX1_moveTo_19 ?_
  refine lv_iload_n hx hb dX1_moveTo_22 rfl (lv_at hl 2 rfl) ?_
  refine lv_iadd hx hb dX1_moveTo_23 ?_
  refine kTop (y := nI (n2 + k)) (nI_add _ _) ?_
  refine kPut (D := D) (ci := 1) (v := .int (nI (n2 + k))) (ty := .int) (C := RX1) (T := TX1) (N := 2) (ws' := [(r, .inr (1, [.ref rb, .int (nI n1)])), (rb, .inl (cI, c1, .inl f)), (o, .inr (1, [.ref ob, .int (nI (n2 + k))])), (ob, .inl (cI, c2, .inl (va_cpy f g 0 n2 k)))]) hx hb hts inX1 tyX1 tyX1_ok nmX1 hown hK hP hD hS 2 rfl rfl 1 (by decide) k_13 rfl (by decide +kernel) (rfl) (by first | rfl | decide) (Nat.le_of_ble_eq_true rfl) rfl dX1_moveTo_24 (fun H locs hP hD hS => ?_)
  refine lv_aload_n hx hb dX1_moveTo_27 rfl (lv_at hl 0 rfl) ?_
  refine lv_dup hx hb dX1_moveTo_28 rfl ?_
  refine va_get (D := D) (ci := 1) (v := .int (nI n1)) (C := RX1) (T := TX1) (N := 2) hx hb hts inX1 hown hK hP 0 rfl rfl 1 (by decide) k_13 (fun _ h9 => h9) rfl dX1_moveTo_29 ?_
  refine lv_iload_n hx hb dX1_moveTo_32 rfl (lv_at hl 2 rfl) ?_
  refine lv_isub hx hb dX1_moveTo_33 ?_
  refine kTop (y := nI (n1 - k)) (pk_sub h1) ?_
  refine kPut (D := D) (ci := 1) (v := .int (nI (n1 - k))) (ty := .int) (C := RX1) (T := TX1) (N := 2) (ws' := [(r, .inr (1, [.ref rb, .int (nI (n1 - k))])), (rb, .inl (cI, c1, .inl f)), (o, .inr (1, [.ref ob, .int (nI (n2 + k))])), (ob, .inl (cI, c2, .inl (va_cpy f g 0 n2 k)))]) hx hb hts inX1 tyX1 tyX1_ok nmX1 hown hK hP hD hS 0 rfl rfl 1 (by decide) k_13 rfl (by decide +kernel) (rfl) (by first | rfl | decide) (Nat.le_of_ble_eq_true rfl) rfl dX1_moveTo_34 (fun H locs hP hD hS => ?_)
  refine lv_aload_n hx hb dX1_moveTo_37 rfl (lv_at hl 0 rfl) ?_
  refine va_get (D := D) (ci := 1) (v := .ref rb) (C := RX1) (T := TX1) (N := 2) hx hb hts inX1 hown hK hP 0 rfl rfl 0 (by decide) k_7 (fun _ h9 => h9) rfl dX1_moveTo_38 ?_
  refine lv_iload_n hx hb dX1_moveTo_41 rfl (lv_at hl 2 rfl) ?_
  refine lv_aload_n hx hb dX1_moveTo_42 rfl (lv_at hl 0 rfl) ?_
  refine va_get (D := D) (ci := 1) (v := .ref rb) (C := RX1) (T := TX1) (N := 2) hx hb hts inX1 hown hK hP 0 rfl rfl 0 (by decide) k_7 (fun _ h9 => h9) rfl dX1_moveTo_43 ?_
  refine lv_iconst (v := 0) hx hb dX1_moveTo_46 (by decide) ?_
  refine lv_aload_n hx hb dX1_moveTo_47 rfl (lv_at hl 0 rfl) ?_
  refine va_get (D := D) (ci := 1) (v := .int (nI (n1 - k))) (C := RX1) (T := TX1) (N := 2) hx hb hts inX1 hown hK hP 0 rfl rfl 1 (by decide) k_13 (fun _ h9 => h9) rfl dX1_moveTo_48 ?_
  refine kCopy (sp := k) (dp := 0) (k := (n1 - k)) (ws' := [(r, .inr (1, [.ref rb, .int (nI (n1 - k))])), (rb, .inl (cI, c1, .inl (va_cpy f f k 0 (n1 - k)))), (o, .inr (1, [.ref ob, .int (nI (n2 + k))])), (ob, .inl (cI, c2, .inl (va_cpy f g 0 n2 k)))]) hx hb (hml.trans hl.1.symm) hown k_17 k_nat k_stt k_sys hK hP hD hS 1 1 0 rfl rfl rfl (rfl) (by decide) (rfl) (by omega) (by omega) (by omega) (by omega) rfl (Nat.le_of_ble_eq_true rfl) (Nat.le_of_ble_eq_true rfl) dX1_moveTo_51 (fun H locs hP hD hS => ?_)
  exact hret _ _ _ _ dX1_moveTo_54 (hP) (hD) hS
end
section
/-! BranchFilters$Filter: the steps -/

def cMd (en : Int32) (x : Int32) (y : Int32) : Int32 := (if en = 0 then (x - y) else (x + y))

set_option maxHeartbeats 4000000 in
set_option maxRecDepth 100000 in
/-- Filter.moved(x, y) -/
theorem c_X0_moved (l : Launch) (D : va_G) (cI cF cJ : ClassId) (q ro pa : Nat) (kd ds en pl he gv rp mk la : Int32) (x y : Int32)  : kI l yX0_moved wsX0_moved ({ frames := 0, cells := 0, slots := 0, locals := 0 }) D (kTy cI cF cJ) [.ref q, .int x, .int y] [(q, .inr (0, [.ref ro, .ref pa, .int kd, .int ds, .int en, .int pl, .int he, .int gv, .int rp, .int mk, .int la]))] [(q, .inr (0, [.ref ro, .ref pa, .int kd, .int ds, .int en, .int pl, .int he, .int gv, .int rp, .int mk, .int la]))] (cMd en x y) := by
  refine kI_of (cc := cX0_moved) (nL := 3) (ty := .int) (own := RX0) (lv := [(0, .ref q), (1, .int x), (2, .int y)]) (by decide) rfl rfl (Nat.le_of_ble_eq_true rfl) rfl (rfl) ?_
  intro p e s m args below meth c A ls Q C hA hK hP hD hS hl hret
  obtain ⟨hx, hb, hr, hml, hown, hts, hlocks⟩ := C
  have k_38 := hts (.fieldLink RX0 38 "BranchFilters$Filter" "encoding" "Z") (by decide +kernel)
  have inX0 : ∀ w ∈ wsX00, w ∈ wsX0_moved := by decide +kernel
  refine lv_aload_n hx hb dX0_moved_0 rfl (lv_at hl 0 rfl) ?_
  refine va_get (D := D) (ci := 0) (v := .int en) (C := RX0) (T := TX0) (N := 11) hx hb hts inX0 hown hK hP 0 rfl rfl 4 (by decide) k_38 (fun _ h9 => h9) rfl dX0_moved_1 ?_
  refine lv_if_eq (tgt := 13) hx hb dX0_moved_4 (by decide) (fun c_1 => ?_) (fun c_1 => ?_)
  · refine lv_iload_n hx hb dX0_moved_13 rfl (lv_at hl 1 rfl) ?_
    refine lv_iload_n hx hb dX0_moved_14 rfl (lv_at hl 2 rfl) ?_
    refine lv_isub hx hb dX0_moved_15 ?_
    have e9 : cMd en x y = (x - y) := if_pos c_1
    exact hret _ _ _ _ _ dX0_moved_16 (by rw [e9]) (hP) (hD) hS
  · refine lv_iload_n hx hb dX0_moved_7 rfl (lv_at hl 1 rfl) ?_
    refine lv_iload_n hx hb dX0_moved_8 rfl (lv_at hl 2 rfl) ?_
    refine lv_iadd hx hb dX0_moved_9 ?_
    refine lv_goto (tgt := 16) hx hb dX0_moved_10 (by decide) ?_
    have e9 : cMd en x y = (x + y) := if_neg c_1
    exact hret _ _ _ _ _ dX0_moved_16 (by rw [e9]) (hP) (hD) hS

def cSg (v : Int32) : Int32 := (if v = 0 then 1 else (if v = 255 then 1 else 0))

set_option maxHeartbeats 4000000 in
set_option maxRecDepth 100000 in
/-- Filter.isSignByte(v) -/
theorem c_X0_isSignByte (l : Launch) (D : va_G) (cI cF cJ : ClassId) (v : Int32)  : kI l yX0_isSignByte wsX0_isSignByte ({ frames := 0, cells := 0, slots := 0, locals := 0 }) D (kTy cI cF cJ) [.int v] [] [] (cSg v) := by
  refine kI_of (cc := cX0_isSignByte) (nL := 1) (ty := .boolean) (own := RX0) (lv := [(0, .int v)]) (by decide) rfl rfl (Nat.le_of_ble_eq_true rfl) rfl (by unfold cSg; repeat (first | rfl | split)) ?_
  intro p e s m args below meth c A ls Q C hA hK hP hD hS hl hret
  obtain ⟨hx, hb, hr, hml, hown, hts, hlocks⟩ := C
  refine lv_iload_n hx hb dX0_isSignByte_0 rfl (lv_at hl 0 rfl) ?_
  refine lv_if_eq (tgt := 11) hx hb dX0_isSignByte_1 (by decide) (fun c_1 => ?_) (fun c_1 => ?_)
  · refine lv_iconst (v := 1) hx hb dX0_isSignByte_11 (by decide) ?_
    refine lv_goto (tgt := 16) hx hb dX0_isSignByte_12 (by decide) ?_
    have e9 : cSg v = 1 := if_pos c_1
    exact hret _ _ _ _ _ dX0_isSignByte_16 (by rw [e9]) (hP) (hD) hS
  · refine lv_iload_n hx hb dX0_isSignByte_4 rfl (lv_at hl 0 rfl) ?_
    refine lv_sipush (v := 255) hx hb dX0_isSignByte_5 (by decide) ?_
    refine lv_icmp_ne (tgt := 15) hx hb dX0_isSignByte_8 (by decide) (fun c_2 => ?_) (fun c_2 => ?_)
    · refine lv_iconst (v := 0) hx hb dX0_isSignByte_15 (by decide) ?_
      have e9 : cSg v = 0 := (if_neg c_1).trans (if_neg c_2)
      exact hret _ _ _ _ _ dX0_isSignByte_16 (by rw [e9]) (hP) (hD) hS
    · refine lv_iconst (v := 1) hx hb dX0_isSignByte_11 (by decide) ?_
      refine lv_goto (tgt := 16) hx hb dX0_isSignByte_12 (by decide) ?_
      have e9 : cSg v = 1 := (if_neg c_1).trans (if_pos c_2)
      exact hret _ _ _ _ _ dX0_isSignByte_16 (by rw [e9]) (hP) (hD) hS

def cAl (mk : Int32) : Int32 := (if 16 ≤ (mk / 2) then 0 else (if ((mk / 2) - (mk / 2) / 8 * 8) ≤ 2 then 1 else (if ((mk / 2) - (mk / 2) / 8 * 8) = 4 then 1 else 0)))

set_option maxHeartbeats 4000000 in
set_option maxRecDepth 100000 in
/-- Filter.maskAllows() -/
theorem c_X0_maskAllows (l : Launch) (D : va_G) (cI cF cJ : ClassId) (q ro pa : Nat) (kd ds en pl he gv rp mk la : Int32)  : kI l yX0_maskAllows wsX0_maskAllows ({ frames := 0, cells := 0, slots := 0, locals := 0 }) D (kTy cI cF cJ) [.ref q] [(q, .inr (0, [.ref ro, .ref pa, .int kd, .int ds, .int en, .int pl, .int he, .int gv, .int rp, .int mk, .int la]))] [(q, .inr (0, [.ref ro, .ref pa, .int kd, .int ds, .int en, .int pl, .int he, .int gv, .int rp, .int mk, .int la]))] (cAl mk) := by
  refine kI_of (cc := cX0_maskAllows) (nL := 3) (ty := .boolean) (own := RX0) (lv := [(0, .ref q)]) (by decide) rfl rfl (Nat.le_of_ble_eq_true rfl) rfl (by unfold cAl; repeat (first | rfl | split)) ?_
  intro p e s m args below meth c A ls Q C hA hK hP hD hS hl hret
  obtain ⟨hx, hb, hr, hml, hown, hts, hlocks⟩ := C
  have k_51 := hts (.fieldLink RX0 51 "BranchFilters$Filter" "mask" "I") (by decide +kernel)
  have inX0 : ∀ w ∈ wsX00, w ∈ wsX0_maskAllows := by decide +kernel
  refine lv_aload_n hx hb dX0_maskAllows_0 rfl (lv_at hl 0 rfl) ?_
  refine va_get (D := D) (ci := 0) (v := .int mk) (C := RX0) (T := TX0) (N := 11) hx hb hts inX0 hown hK hP 0 rfl rfl 9 (by decide) k_51 (fun _ h9 => h9) rfl dX0_maskAllows_1 ?_
  refine lv_iconst (v := 2) hx hb dX0_maskAllows_4 (by decide) ?_
  refine lv_idiv hx hb dX0_maskAllows_5 (by decide) ?_
  refine lv_topi (fun x_1 e_1 => ?_)
  refine lv_istore_n (lv' := [(1, .int x_1), (0, .ref q)]) hx hb dX0_maskAllows_6 rfl hl (by decide) rfl (fun ls hl => ?_)
  refine lv_iload_n hx hb dX0_maskAllows_7 rfl (lv_at hl 0 rfl) ?_
  refine lv_bipush (v := 8) hx hb dX0_maskAllows_8 (by decide) ?_
  refine lv_irem hx hb dX0_maskAllows_10 (by decide) ?_
  refine lv_topi (fun x_2 e_2 => ?_)
  refine lv_istore_n (lv' := [(2, .int x_2), (1, .int x_1), (0, .ref q)]) hx hb dX0_maskAllows_11 rfl hl (by decide) rfl (fun ls hl => ?_)
  refine lv_iload_n hx hb dX0_maskAllows_12 rfl (lv_at hl 1 rfl) ?_
  refine lv_bipush (v := 16) hx hb dX0_maskAllows_13 (by decide) ?_
  refine lv_icmp_ge (tgt := 32) hx hb dX0_maskAllows_15 (by decide) (fun c_3 => ?_) (fun c_3 => ?_)
  · refine lv_iconst (v := 0) hx hb dX0_maskAllows_32 (by decide) ?_
    subst e_2
    subst e_1
    have e9 : cAl mk = 0 := if_pos c_3
    exact hret _ _ _ _ _ dX0_maskAllows_33 (by rw [e9]) (hP) (hD) hS
  · refine lv_iload_n hx hb dX0_maskAllows_18 rfl (lv_at hl 0 rfl) ?_
    refine lv_iconst (v := 2) hx hb dX0_maskAllows_19 (by decide) ?_
    refine lv_icmp_le (tgt := 28) hx hb dX0_maskAllows_20 (by decide) (fun c_4 => ?_) (fun c_4 => ?_)
    · refine lv_iconst (v := 1) hx hb dX0_maskAllows_28 (by decide) ?_
      refine lv_goto (tgt := 33) hx hb dX0_maskAllows_29 (by decide) ?_
      subst e_2
      subst e_1
      have e9 : cAl mk = 1 := (if_neg c_3).trans (if_pos c_4)
      exact hret _ _ _ _ _ dX0_maskAllows_33 (by rw [e9]) (hP) (hD) hS
    · refine lv_iload_n hx hb dX0_maskAllows_23 rfl (lv_at hl 0 rfl) ?_
      refine lv_iconst (v := 4) hx hb dX0_maskAllows_24 (by decide) ?_
      refine lv_icmp_ne (tgt := 32) hx hb dX0_maskAllows_25 (by decide) (fun c_5 => ?_) (fun c_5 => ?_)
      · refine lv_iconst (v := 0) hx hb dX0_maskAllows_32 (by decide) ?_
        subst e_2
        subst e_1
        have e9 : cAl mk = 0 := (if_neg c_3).trans ((if_neg c_4).trans (if_neg c_5))
        exact hret _ _ _ _ _ dX0_maskAllows_33 (by rw [e9]) (hP) (hD) hS
      · refine lv_iconst (v := 1) hx hb dX0_maskAllows_28 (by decide) ?_
        refine lv_goto (tgt := 33) hx hb dX0_maskAllows_29 (by decide) ?_
        subst e_2
        subst e_1
        have e9 : cAl mk = 1 := (if_neg c_3).trans ((if_neg c_4).trans (if_pos c_5))
        exact hret _ _ _ _ _ dX0_maskAllows_33 (by rw [e9]) (hP) (hD) hS

set_option maxHeartbeats 4000000 in
set_option maxRecDepth 100000 in
/-- Filter.become(x, y) -/
theorem c_X0_become (l : Launch) (D : va_G) (cI cF cJ : ClassId) (q ro pa : Nat) (kd ds en pl he gv rp mk la : Int32) (x y : Int32)  : kV l yX0_become wsX0_become ({ frames := 0, cells := 0, slots := 0, locals := 0 }) D (kTy cI cF cJ) [.ref q, .int x, .int y] [(q, .inr (0, [.ref ro, .ref pa, .int kd, .int ds, .int en, .int pl, .int he, .int gv, .int rp, .int mk, .int la]))] [(q, .inr (0, [.ref ro, .ref pa, .int x, .int y, .int en, .int pl, .int he, .int gv, .int rp, .int mk, .int la]))] := by
  refine kV_of (cc := cX0_become) (nL := 3) (own := RX0) (lv := [(0, .ref q), (1, .int x), (2, .int y)]) (by decide) rfl rfl (Nat.le_of_ble_eq_true rfl) rfl ?_
  intro p e s m args below meth c A ls Q C hA hK hP hD hS hl hret
  obtain ⟨hx, hb, hr, hml, hown, hts, hlocks⟩ := C
  have k_24 := hts (.fieldLink RX0 24 "BranchFilters$Filter" "distance" "I") (by decide +kernel)
  have k_32 := hts (.fieldLink RX0 32 "BranchFilters$Filter" "kind" "I") (by decide +kernel)
  have inX0 : ∀ w ∈ wsX00, w ∈ wsX0_become := by decide +kernel
  refine lv_aload_n hx hb dX0_become_0 rfl (lv_at hl 0 rfl) ?_
  refine lv_iload_n hx hb dX0_become_1 rfl (lv_at hl 1 rfl) ?_
  refine kPut (D := D) (ci := 0) (v := .int x) (ty := .int) (C := RX0) (T := TX0) (N := 11) (ws' := [(q, .inr (0, [.ref ro, .ref pa, .int x, .int ds, .int en, .int pl, .int he, .int gv, .int rp, .int mk, .int la]))]) hx hb hts inX0 tyX0 tyX0_ok nmX0 hown hK hP hD hS 0 rfl rfl 2 (by decide) k_32 rfl (by decide +kernel) (rfl) (by first | rfl | decide) (Nat.le_of_ble_eq_true rfl) rfl dX0_become_2 (fun H locs hP hD hS => ?_)
  refine lv_aload_n hx hb dX0_become_5 rfl (lv_at hl 0 rfl) ?_
  refine lv_iload_n hx hb dX0_become_6 rfl (lv_at hl 2 rfl) ?_
  refine kPut (D := D) (ci := 0) (v := .int y) (ty := .int) (C := RX0) (T := TX0) (N := 11) (ws' := [(q, .inr (0, [.ref ro, .ref pa, .int x, .int y, .int en, .int pl, .int he, .int gv, .int rp, .int mk, .int la]))]) hx hb hts inX0 tyX0 tyX0_ok nmX0 hown hK hP hD hS 0 rfl rfl 3 (by decide) k_24 rfl (by decide +kernel) (rfl) (by first | rfl | decide) (Nat.le_of_ble_eq_true rfl) rfl dX0_become_7 (fun H locs hP hD hS => ?_)
  exact hret _ _ _ _ dX0_become_10 (hP) (hD) hS

def cArm (en : Int32) (pl : Int32) (rp : Int32) (h : Nat) (g : Nat → Int32) : Int32 × Int32 × (Nat → Int32) := (if kU (cLo g h) 24 = 235 then (4, rp + 1, cSetLo g h ((-352321536) ||| ((kU (cMd en (4 * ((cLo g h) &&& 16777215)) (pl + 8)) 2) &&& 16777215))) else (4, rp, g))

set_option maxHeartbeats 4000000 in
set_option maxRecDepth 100000 in
/-- Filter.stepArm() -/
theorem c_X0_stepArm (l : Launch) (D : va_G) (cI cF cJ : ClassId) (q ro pa rb h : Nat) (kd ds en pl gv rp mk la sz : Int32) (g : Nat → Int32) (hk : h + 3 < 64) : kI l yX0_stepArm wsX0_stepArm ({ frames := 1, cells := 0, slots := 0, locals := 22 }) D (kTy cI cF cJ) [.ref q] [(q, .inr (0, [.ref ro, .ref pa, .int kd, .int ds, .int en, .int pl, .int (nI h), .int gv, .int rp, .int mk, .int la])), (ro, .inr (1, [.ref rb, .int sz])), (rb, .inl (cI, 64, .inl g))] [(q, .inr (0, [.ref ro, .ref pa, .int kd, .int ds, .int en, .int pl, .int (nI h), .int gv, .int ((cArm en pl rp h g).2.1), .int mk, .int la])), (ro, .inr (1, [.ref rb, .int sz])), (rb, .inl (cI, 64, .inl ((cArm en pl rp h g).2.2)))] ((cArm en pl rp h g).1) := by
  refine kI_of (cc := cX0_stepArm) (nL := 4) (ty := .int) (own := RX0) (lv := [(0, .ref q)]) (by decide) rfl rfl (Nat.le_of_ble_eq_true rfl) rfl (rfl) ?_
  intro p e s m args below meth c A ls Q C hA hK hP hD hS hl hret
  obtain ⟨hx, hb, hr, hml, hown, hts, hlocks⟩ := C
  have k_110 := hts (.constant RX0 110 (16777215)) (by decide +kernel)
  have k_111 := hts (.constant RX0 111 (-352321536)) (by decide +kernel)
  have k_14 := hts (.fieldLink RX0 14 "BranchFilters$Filter" "held" "LBranchFilters$Row;") (by decide +kernel)
  have k_42 := hts (.fieldLink RX0 42 "BranchFilters$Filter" "place" "I") (by decide +kernel)
  have k_48 := hts (.fieldLink RX0 48 "BranchFilters$Filter" "replaced" "I") (by decide +kernel)
  have k_65 := hts (.fieldLink RX0 65 "BranchFilters$Filter" "here" "I") (by decide +kernel)
  have inX0 : ∀ w ∈ wsX00, w ∈ wsX0_stepArm := by decide +kernel
  refine lv_aload_n hx hb dX0_stepArm_0 rfl (lv_at hl 0 rfl) ?_
  refine va_get (D := D) (ci := 0) (v := .ref ro) (C := RX0) (T := TX0) (N := 11) hx hb hts inX0 hown hK hP 0 rfl rfl 0 (by decide) k_14 (fun _ h9 => h9) rfl dX0_stepArm_1 ?_
  refine lv_aload_n hx hb dX0_stepArm_4 rfl (lv_at hl 0 rfl) ?_
  refine va_get (D := D) (ci := 0) (v := .int (nI h)) (C := RX0) (T := TX0) (N := 11) hx hb hts inX0 hown hK hP 0 rfl rfl 6 (by decide) k_65 (fun _ h9 => h9) rfl dX0_stepArm_5 ?_
  refine kCallI (As := [.int (nI h)]) (wc := [(ro, .inr (1, [.ref rb, .int sz])), (rb, .inl (cI, 64, .inl g))]) (wr := [(q, .inr (0, [.ref ro, .ref pa, .int kd, .int ds, .int en, .int pl, .int (nI h), .int gv, .int rp, .int mk, .int la]))]) (ws' := [(q, .inr (0, [.ref ro, .ref pa, .int kd, .int ds, .int en, .int pl, .int (nI h), .int gv, .int rp, .int mk, .int la])), (ro, .inr (1, [.ref rb, .int sz])), (rb, .inl (cI, 64, .inl g))]) (ci := 1) (C := RX1) ⟨hx, hb, hml, hown, hts⟩ (c_X1_lowestFirst l D cI cF cJ ro rb 64 h g sz (by omega) (by omega)) (cwV 1 hts gX0_stepArm_X1_lowestFirst rfl rfl rfl (by decide +kernel) ⟨Nat.le_of_ble_eq_true rfl, Nat.le_of_ble_eq_true rfl⟩) hK hP hD hS hA [1, 2] [0] [0, 1, 2] rfl rfl rfl rfl (by decide) rfl rfl rfl rfl rfl hl.1 (Nat.le_of_ble_eq_true rfl) ⟨Nat.zero_le _, Nat.zero_le _⟩ dX0_stepArm_8 (fun H locs hP hD hS => ?_) rfl
  refine lv_topi (fun x_1 e_1 => ?_)
  refine lv_istore_n (lv' := [(1, .int x_1), (0, .ref q)]) hx hb dX0_stepArm_11 rfl hl (by decide) rfl (fun ls hl => ?_)
  refine lv_iload_n hx hb dX0_stepArm_12 rfl (lv_at hl 0 rfl) ?_
  refine lv_bipush (v := 24) hx hb dX0_stepArm_13 (by decide) ?_
  refine lv_iushr (v := (kU x_1 24)) hx hb dX0_stepArm_15 rfl ?_
  refine lv_sipush (v := 235) hx hb dX0_stepArm_16 (by decide) ?_
  refine lv_icmp_ne (tgt := 72) hx hb dX0_stepArm_19 (by decide) (fun c_2 => ?_) (fun c_2 => ?_)
  · refine lv_iconst (v := 4) hx hb dX0_stepArm_72 (by decide) ?_
    subst e_1
    have e9 : cArm en pl rp h g = (4, rp, g) := if_neg c_2
    exact hret _ _ _ _ _ dX0_stepArm_73 (by rw [e9]) (by rw [e9]; exact hP) (by rw [e9]; exact hD) hS
  · refine lv_iload_n hx hb dX0_stepArm_22 rfl (lv_at hl 0 rfl) ?_
    refine lv_ldc (v := 16777215) hx hb hown k_110 dX0_stepArm_23 ?_
    refine lv_iand hx hb dX0_stepArm_25 ?_
    refine lv_topi (fun x_3 e_3 => ?_)
    refine lv_istore_n (lv' := [(2, .int x_3), (1, .int x_1), (0, .ref q)]) hx hb dX0_stepArm_26 rfl hl (by decide) rfl (fun ls hl => ?_)
    refine lv_aload_n hx hb dX0_stepArm_27 rfl (lv_at hl 2 rfl) ?_
    refine lv_iconst (v := 4) hx hb dX0_stepArm_28 (by decide) ?_
    refine lv_iload_n hx hb dX0_stepArm_29 rfl (lv_at hl 0 rfl) ?_
    refine lv_imul hx hb dX0_stepArm_30 ?_
    refine lv_aload_n hx hb dX0_stepArm_31 rfl (lv_at hl 2 rfl) ?_
    refine va_get (D := D) (ci := 0) (v := .int pl) (C := RX0) (T := TX0) (N := 11) hx hb hts inX0 hown hK hP 0 rfl rfl 5 (by decide) k_42 (fun _ h9 => h9) rfl dX0_stepArm_32 ?_
    refine lv_bipush (v := 8) hx hb dX0_stepArm_35 (by decide) ?_
    refine lv_iadd hx hb dX0_stepArm_37 ?_
    refine kCallI (As := [.int (4 * x_3), .int (pl + 8)]) (wc := [(q, .inr (0, [.ref ro, .ref pa, .int kd, .int ds, .int en, .int pl, .int (nI h), .int gv, .int rp, .int mk, .int la]))]) (wr := [(ro, .inr (1, [.ref rb, .int sz])), (rb, .inl (cI, 64, .inl g))]) (ws' := [(q, .inr (0, [.ref ro, .ref pa, .int kd, .int ds, .int en, .int pl, .int (nI h), .int gv, .int rp, .int mk, .int la])), (ro, .inr (1, [.ref rb, .int sz])), (rb, .inl (cI, 64, .inl g))]) (ci := 0) (C := RX0) ⟨hx, hb, hml, hown, hts⟩ (c_X0_moved l D cI cF cJ q ro pa kd ds en pl (nI h) gv rp mk la (4 * x_3) (pl + 8) ) (cwV 2 hts gX0_stepArm_X0_moved rfl rfl rfl (by decide +kernel) ⟨Nat.le_of_ble_eq_true rfl, Nat.le_of_ble_eq_true rfl⟩) hK hP hD hS hA [0] [1, 2] [2, 0, 1] rfl rfl rfl rfl (by decide) rfl rfl rfl rfl rfl hl.1 (Nat.le_of_ble_eq_true rfl) ⟨Nat.zero_le _, Nat.zero_le _⟩ dX0_stepArm_38 (fun H locs hP hD hS => ?_) rfl
    refine lv_iconst (v := 2) hx hb dX0_stepArm_41 (by decide) ?_
    refine lv_iushr (v := (kU (cMd en (4 * x_3) (pl + 8)) 2)) hx hb dX0_stepArm_42 rfl ?_
    refine lv_topi (fun x_4 e_4 => ?_)
    refine lv_istore_n (lv' := [(3, .int x_4), (2, .int x_3), (1, .int x_1), (0, .ref q)]) hx hb dX0_stepArm_43 rfl hl (by decide) rfl (fun ls hl => ?_)
    refine lv_aload_n hx hb dX0_stepArm_44 rfl (lv_at hl 3 rfl) ?_
    refine va_get (D := D) (ci := 0) (v := .ref ro) (C := RX0) (T := TX0) (N := 11) hx hb hts inX0 hown hK hP 0 rfl rfl 0 (by decide) k_14 (fun _ h9 => h9) rfl dX0_stepArm_45 ?_
    refine lv_aload_n hx hb dX0_stepArm_48 rfl (lv_at hl 3 rfl) ?_
    refine va_get (D := D) (ci := 0) (v := .int (nI h)) (C := RX0) (T := TX0) (N := 11) hx hb hts inX0 hown hK hP 0 rfl rfl 6 (by decide) k_65 (fun _ h9 => h9) rfl dX0_stepArm_49 ?_
    refine lv_ldc (v := (-352321536)) hx hb hown k_111 dX0_stepArm_52 ?_
    refine lv_iload_n hx hb dX0_stepArm_54 rfl (lv_at hl 0 rfl) ?_
    refine lv_ldc (v := 16777215) hx hb hown k_110 dX0_stepArm_55 ?_
    refine lv_iand hx hb dX0_stepArm_57 ?_
    refine lv_ior hx hb dX0_stepArm_58 ?_
    refine kCallV (As := [.int (nI h), .int ((-352321536) ||| (x_4 &&& 16777215))]) (wc := [(ro, .inr (1, [.ref rb, .int sz])), (rb, .inl (cI, 64, .inl g))]) (wr := [(q, .inr (0, [.ref ro, .ref pa, .int kd, .int ds, .int en, .int pl, .int (nI h), .int gv, .int rp, .int mk, .int la]))]) (ws' := [(q, .inr (0, [.ref ro, .ref pa, .int kd, .int ds, .int en, .int pl, .int (nI h), .int gv, .int rp, .int mk, .int la])), (ro, .inr (1, [.ref rb, .int sz])), (rb, .inl (cI, 64, .inl (cSetLo g h ((-352321536) ||| (x_4 &&& 16777215)))))]) (ci := 1) (C := RX1) ⟨hx, hb, hml, hown, hts⟩ (c_X1_setLowestFirst l D cI cF cJ ro rb 64 h g sz ((-352321536) ||| (x_4 &&& 16777215)) (by omega) (by omega)) (cwV 2 hts gX0_stepArm_X1_setLowestFirst rfl rfl rfl (by decide +kernel) ⟨Nat.le_of_ble_eq_true rfl, Nat.le_of_ble_eq_true rfl⟩) hK hP hD hS hA [1, 2] [0] [0, 1, 2] rfl rfl rfl rfl (by decide) rfl rfl rfl rfl rfl hl.1 (Nat.le_of_ble_eq_true rfl) ⟨Nat.zero_le _, Nat.zero_le _⟩ dX0_stepArm_59 (fun H locs hP hD hS => ?_) rfl
    refine lv_aload_n hx hb dX0_stepArm_62 rfl (lv_at hl 3 rfl) ?_
    refine lv_dup hx hb dX0_stepArm_63 rfl ?_
    refine va_get (D := D) (ci := 0) (v := .int rp) (C := RX0) (T := TX0) (N := 11) hx hb hts inX0 hown hK hP 0 rfl rfl 8 (by decide) k_48 (fun _ h9 => h9) rfl dX0_stepArm_64 ?_
    refine lv_iconst (v := 1) hx hb dX0_stepArm_67 (by decide) ?_
    refine lv_iadd hx hb dX0_stepArm_68 ?_
    refine kPut (D := D) (ci := 0) (v := .int (rp + 1)) (ty := .int) (C := RX0) (T := TX0) (N := 11) (ws' := [(q, .inr (0, [.ref ro, .ref pa, .int kd, .int ds, .int en, .int pl, .int (nI h), .int gv, .int (rp + 1), .int mk, .int la])), (ro, .inr (1, [.ref rb, .int sz])), (rb, .inl (cI, 64, .inl (cSetLo g h ((-352321536) ||| (x_4 &&& 16777215)))))]) hx hb hts inX0 tyX0 tyX0_ok nmX0 hown hK hP hD hS 0 rfl rfl 8 (by decide) k_48 rfl (by decide +kernel) (rfl) (by first | rfl | decide) (Nat.le_of_ble_eq_true rfl) rfl dX0_stepArm_69 (fun H locs hP hD hS => ?_)
    refine lv_iconst (v := 4) hx hb dX0_stepArm_72 (by decide) ?_
    subst e_4
    subst e_3
    subst e_1
    have e9 : cArm en pl rp h g = (4, rp + 1, cSetLo g h ((-352321536) ||| ((kU (cMd en (4 * ((cLo g h) &&& 16777215)) (pl + 8)) 2) &&& 16777215))) := if_pos c_2
    exact hret _ _ _ _ _ dX0_stepArm_73 (by rw [e9]) (by rw [e9]; exact hP) (by rw [e9]; exact hD) hS

def cThumb (en : Int32) (pl : Int32) (rp : Int32) (h : Nat) (g : Nat → Int32) : Int32 × Int32 × (Nat → Int32) := (if kU (g (h + 1)) 3 = 30 then (if kU (g (h + 3)) 3 = 31 then (4, rp + 1, upd (upd (upd (upd g h ((kU (kU (cMd en (2 * ((((((g (h + 1)) &&& 7) <<< ((19 : Int32) &&& 31)) ||| ((g h) <<< ((11 : Int32) &&& 31))) ||| (((g (h + 3)) &&& 7) <<< ((8 : Int32) &&& 31))) ||| (g (h + 2)))) (pl + 4)) 1) 11) &&& 255)) (h + 1) ((240 ||| ((kU (kU (cMd en (2 * ((((((g (h + 1)) &&& 7) <<< ((19 : Int32) &&& 31)) ||| ((g h) <<< ((11 : Int32) &&& 31))) ||| (((g (h + 3)) &&& 7) <<< ((8 : Int32) &&& 31))) ||| (g (h + 2)))) (pl + 4)) 1) 19) &&& 7)) &&& 255)) (h + 2) ((kU (cMd en (2 * ((((((g (h + 1)) &&& 7) <<< ((19 : Int32) &&& 31)) ||| ((g h) <<< ((11 : Int32) &&& 31))) ||| (((g (h + 3)) &&& 7) <<< ((8 : Int32) &&& 31))) ||| (g (h + 2)))) (pl + 4)) 1) &&& 255)) (h + 3) ((248 ||| ((kU (kU (cMd en (2 * ((((((g (h + 1)) &&& 7) <<< ((19 : Int32) &&& 31)) ||| ((g h) <<< ((11 : Int32) &&& 31))) ||| (((g (h + 3)) &&& 7) <<< ((8 : Int32) &&& 31))) ||| (g (h + 2)))) (pl + 4)) 1) 8) &&& 7)) &&& 255)) else (2, rp, g)) else (2, rp, g))

set_option maxHeartbeats 4000000 in
set_option maxRecDepth 100000 in
/-- Filter.stepThumb() -/
theorem c_X0_stepThumb (l : Launch) (D : va_G) (cI cF cJ : ClassId) (q ro pa rb h : Nat) (kd ds en pl gv rp mk la sz : Int32) (g : Nat → Int32) (hk : h + 3 < 64) : kI l yX0_stepThumb wsX0_stepThumb ({ frames := 1, cells := 0, slots := 0, locals := 22 }) D (kTy cI cF cJ) [.ref q] [(q, .inr (0, [.ref ro, .ref pa, .int kd, .int ds, .int en, .int pl, .int (nI h), .int gv, .int rp, .int mk, .int la])), (ro, .inr (1, [.ref rb, .int sz])), (rb, .inl (cI, 64, .inl g))] [(q, .inr (0, [.ref ro, .ref pa, .int kd, .int ds, .int en, .int pl, .int (nI h), .int gv, .int ((cThumb en pl rp h g).2.1), .int mk, .int la])), (ro, .inr (1, [.ref rb, .int sz])), (rb, .inl (cI, 64, .inl ((cThumb en pl rp h g).2.2)))] ((cThumb en pl rp h g).1) := by
  refine kI_of (cc := cX0_stepThumb) (nL := 7) (ty := .int) (own := RX0) (lv := [(0, .ref q)]) (by decide) rfl rfl (Nat.le_of_ble_eq_true rfl) rfl (rfl) ?_
  intro p e s m args below meth c A ls Q C hA hK hP hD hS hl hret
  obtain ⟨hx, hb, hr, hml, hown, hts, hlocks⟩ := C
  have k_14 := hts (.fieldLink RX0 14 "BranchFilters$Filter" "held" "LBranchFilters$Row;") (by decide +kernel)
  have k_42 := hts (.fieldLink RX0 42 "BranchFilters$Filter" "place" "I") (by decide +kernel)
  have k_48 := hts (.fieldLink RX0 48 "BranchFilters$Filter" "replaced" "I") (by decide +kernel)
  have k_65 := hts (.fieldLink RX0 65 "BranchFilters$Filter" "here" "I") (by decide +kernel)
  have inX0 : ∀ w ∈ wsX00, w ∈ wsX0_stepThumb := by decide +kernel
  refine lv_aload_n hx hb dX0_stepThumb_0 rfl (lv_at hl 0 rfl) ?_
  refine va_get (D := D) (ci := 0) (v := .ref ro) (C := RX0) (T := TX0) (N := 11) hx hb hts inX0 hown hK hP 0 rfl rfl 0 (by decide) k_14 (fun _ h9 => h9) rfl dX0_stepThumb_1 ?_
  refine lv_aload_n hx hb dX0_stepThumb_4 rfl (lv_at hl 0 rfl) ?_
  refine va_get (D := D) (ci := 0) (v := .int (nI h)) (C := RX0) (T := TX0) (N := 11) hx hb hts inX0 hown hK hP 0 rfl rfl 6 (by decide) k_65 (fun _ h9 => h9) rfl dX0_stepThumb_5 ?_
  refine kCallI (As := [.int (nI h)]) (wc := [(ro, .inr (1, [.ref rb, .int sz])), (rb, .inl (cI, 64, .inl g))]) (wr := [(q, .inr (0, [.ref ro, .ref pa, .int kd, .int ds, .int en, .int pl, .int (nI h), .int gv, .int rp, .int mk, .int la]))]) (ws' := [(q, .inr (0, [.ref ro, .ref pa, .int kd, .int ds, .int en, .int pl, .int (nI h), .int gv, .int rp, .int mk, .int la])), (ro, .inr (1, [.ref rb, .int sz])), (rb, .inl (cI, 64, .inl g))]) (ci := 1) (C := RX1) ⟨hx, hb, hml, hown, hts⟩ (c_X1_at l D cI cF cJ ro rb 64 h g sz (by omega) (by omega)) (cwV 1 hts gX0_stepThumb_X1_at rfl rfl rfl (by decide +kernel) ⟨Nat.le_of_ble_eq_true rfl, Nat.le_of_ble_eq_true rfl⟩) hK hP hD hS hA [1, 2] [0] [0, 1, 2] rfl rfl rfl rfl (by decide) rfl rfl rfl rfl rfl hl.1 (Nat.le_of_ble_eq_true rfl) ⟨Nat.zero_le _, Nat.zero_le _⟩ dX0_stepThumb_8 (fun H locs hP hD hS => ?_) rfl
  refine lv_topi (fun x_1 e_1 => ?_)
  refine lv_istore_n (lv' := [(1, .int x_1), (0, .ref q)]) hx hb dX0_stepThumb_11 rfl hl (by decide) rfl (fun ls hl => ?_)
  refine lv_aload_n hx hb dX0_stepThumb_12 rfl (lv_at hl 1 rfl) ?_
  refine va_get (D := D) (ci := 0) (v := .ref ro) (C := RX0) (T := TX0) (N := 11) hx hb hts inX0 hown hK hP 0 rfl rfl 0 (by decide) k_14 (fun _ h9 => h9) rfl dX0_stepThumb_13 ?_
  refine lv_aload_n hx hb dX0_stepThumb_16 rfl (lv_at hl 1 rfl) ?_
  refine va_get (D := D) (ci := 0) (v := .int (nI h)) (C := RX0) (T := TX0) (N := 11) hx hb hts inX0 hown hK hP 0 rfl rfl 6 (by decide) k_65 (fun _ h9 => h9) rfl dX0_stepThumb_17 ?_
  refine lv_iconst (v := 1) hx hb dX0_stepThumb_20 (by decide) ?_
  refine lv_iadd hx hb dX0_stepThumb_21 ?_
  refine kTop (y := nI (h + 1)) (nI_add _ 1) ?_
  refine kCallI (As := [.int (nI (h + 1))]) (wc := [(ro, .inr (1, [.ref rb, .int sz])), (rb, .inl (cI, 64, .inl g))]) (wr := [(q, .inr (0, [.ref ro, .ref pa, .int kd, .int ds, .int en, .int pl, .int (nI h), .int gv, .int rp, .int mk, .int la]))]) (ws' := [(q, .inr (0, [.ref ro, .ref pa, .int kd, .int ds, .int en, .int pl, .int (nI h), .int gv, .int rp, .int mk, .int la])), (ro, .inr (1, [.ref rb, .int sz])), (rb, .inl (cI, 64, .inl g))]) (ci := 1) (C := RX1) ⟨hx, hb, hml, hown, hts⟩ (c_X1_at l D cI cF cJ ro rb 64 (h + 1) g sz (by omega) (by omega)) (cwV 1 hts gX0_stepThumb_X1_at rfl rfl rfl (by decide +kernel) ⟨Nat.le_of_ble_eq_true rfl, Nat.le_of_ble_eq_true rfl⟩) hK hP hD hS hA [1, 2] [0] [0, 1, 2] rfl rfl rfl rfl (by decide) rfl rfl rfl rfl rfl hl.1 (Nat.le_of_ble_eq_true rfl) ⟨Nat.zero_le _, Nat.zero_le _⟩ dX0_stepThumb_22 (fun H locs hP hD hS => ?_) rfl
  refine lv_topi (fun x_2 e_2 => ?_)
  refine lv_istore_n (lv' := [(2, .int x_2), (1, .int x_1), (0, .ref q)]) hx hb dX0_stepThumb_25 rfl hl (by decide) rfl (fun ls hl => ?_)
  refine lv_aload_n hx hb dX0_stepThumb_26 rfl (lv_at hl 2 rfl) ?_
  refine va_get (D := D) (ci := 0) (v := .ref ro) (C := RX0) (T := TX0) (N := 11) hx hb hts inX0 hown hK hP 0 rfl rfl 0 (by decide) k_14 (fun _ h9 => h9) rfl dX0_stepThumb_27 ?_
  refine lv_aload_n hx hb dX0_stepThumb_30 rfl (lv_at hl 2 rfl) ?_
  refine va_get (D := D) (ci := 0) (v := .int (nI h)) (C := RX0) (T := TX0) (N := 11) hx hb hts inX0 hown hK hP 0 rfl rfl 6 (by decide) k_65 (fun _ h9 => h9) rfl dX0_stepThumb_31 ?_
  refine lv_iconst (v := 2) hx hb dX0_stepThumb_34 (by decide) ?_
  refine lv_iadd hx hb dX0_stepThumb_35 ?_
  refine kTop (y := nI (h + 2)) (nI_add _ 2) ?_
  refine kCallI (As := [.int (nI (h + 2))]) (wc := [(ro, .inr (1, [.ref rb, .int sz])), (rb, .inl (cI, 64, .inl g))]) (wr := [(q, .inr (0, [.ref ro, .ref pa, .int kd, .int ds, .int en, .int pl, .int (nI h), .int gv, .int rp, .int mk, .int la]))]) (ws' := [(q, .inr (0, [.ref ro, .ref pa, .int kd, .int ds, .int en, .int pl, .int (nI h), .int gv, .int rp, .int mk, .int la])), (ro, .inr (1, [.ref rb, .int sz])), (rb, .inl (cI, 64, .inl g))]) (ci := 1) (C := RX1) ⟨hx, hb, hml, hown, hts⟩ (c_X1_at l D cI cF cJ ro rb 64 (h + 2) g sz (by omega) (by omega)) (cwV 1 hts gX0_stepThumb_X1_at rfl rfl rfl (by decide +kernel) ⟨Nat.le_of_ble_eq_true rfl, Nat.le_of_ble_eq_true rfl⟩) hK hP hD hS hA [1, 2] [0] [0, 1, 2] rfl rfl rfl rfl (by decide) rfl rfl rfl rfl rfl hl.1 (Nat.le_of_ble_eq_true rfl) ⟨Nat.zero_le _, Nat.zero_le _⟩ dX0_stepThumb_36 (fun H locs hP hD hS => ?_) rfl
  refine lv_topi (fun x_3 e_3 => ?_)
  refine lv_istore_n (lv' := [(3, .int x_3), (2, .int x_2), (1, .int x_1), (0, .ref q)]) hx hb dX0_stepThumb_39 rfl hl (by decide) rfl (fun ls hl => ?_)
  refine lv_aload_n hx hb dX0_stepThumb_40 rfl (lv_at hl 3 rfl) ?_
  refine va_get (D := D) (ci := 0) (v := .ref ro) (C := RX0) (T := TX0) (N := 11) hx hb hts inX0 hown hK hP 0 rfl rfl 0 (by decide) k_14 (fun _ h9 => h9) rfl dX0_stepThumb_41 ?_
  refine lv_aload_n hx hb dX0_stepThumb_44 rfl (lv_at hl 3 rfl) ?_
  refine va_get (D := D) (ci := 0) (v := .int (nI h)) (C := RX0) (T := TX0) (N := 11) hx hb hts inX0 hown hK hP 0 rfl rfl 6 (by decide) k_65 (fun _ h9 => h9) rfl dX0_stepThumb_45 ?_
  refine lv_iconst (v := 3) hx hb dX0_stepThumb_48 (by decide) ?_
  refine lv_iadd hx hb dX0_stepThumb_49 ?_
  refine kTop (y := nI (h + 3)) (nI_add _ 3) ?_
  refine kCallI (As := [.int (nI (h + 3))]) (wc := [(ro, .inr (1, [.ref rb, .int sz])), (rb, .inl (cI, 64, .inl g))]) (wr := [(q, .inr (0, [.ref ro, .ref pa, .int kd, .int ds, .int en, .int pl, .int (nI h), .int gv, .int rp, .int mk, .int la]))]) (ws' := [(q, .inr (0, [.ref ro, .ref pa, .int kd, .int ds, .int en, .int pl, .int (nI h), .int gv, .int rp, .int mk, .int la])), (ro, .inr (1, [.ref rb, .int sz])), (rb, .inl (cI, 64, .inl g))]) (ci := 1) (C := RX1) ⟨hx, hb, hml, hown, hts⟩ (c_X1_at l D cI cF cJ ro rb 64 (h + 3) g sz (by omega) (by omega)) (cwV 1 hts gX0_stepThumb_X1_at rfl rfl rfl (by decide +kernel) ⟨Nat.le_of_ble_eq_true rfl, Nat.le_of_ble_eq_true rfl⟩) hK hP hD hS hA [1, 2] [0] [0, 1, 2] rfl rfl rfl rfl (by decide) rfl rfl rfl rfl rfl hl.1 (Nat.le_of_ble_eq_true rfl) ⟨Nat.zero_le _, Nat.zero_le _⟩ dX0_stepThumb_50 (fun H locs hP hD hS => ?_) rfl
  refine lv_topi (fun x_4 e_4 => ?_)
  refine lv_istore (lv' := [(4, .int x_4), (3, .int x_3), (2, .int x_2), (1, .int x_1), (0, .ref q)]) hx hb dX0_stepThumb_53 hl (by decide) rfl (fun ls hl => ?_)
  refine lv_iload_n hx hb dX0_stepThumb_55 rfl (lv_at hl 2 rfl) ?_
  refine lv_iconst (v := 3) hx hb dX0_stepThumb_56 (by decide) ?_
  refine lv_iushr (v := (kU x_2 3)) hx hb dX0_stepThumb_57 rfl ?_
  refine lv_bipush (v := 30) hx hb dX0_stepThumb_58 (by decide) ?_
  refine lv_icmp_ne (tgt := 72) hx hb dX0_stepThumb_60 (by decide) (fun c_5 => ?_) (fun c_5 => ?_)
  · refine lv_iconst (v := 2) hx hb dX0_stepThumb_72 (by decide) ?_
    subst e_4
    subst e_3
    subst e_2
    subst e_1
    have e9 : cThumb en pl rp h g = (2, rp, g) := if_neg c_5
    exact hret _ _ _ _ _ dX0_stepThumb_73 (by rw [e9]) (by rw [e9]; exact hP) (by rw [e9]; exact hD) hS
  · refine lv_iload hx hb dX0_stepThumb_63 (lv_at hl 0 rfl) ?_
    refine lv_iconst (v := 3) hx hb dX0_stepThumb_65 (by decide) ?_
    refine lv_iushr (v := (kU x_4 3)) hx hb dX0_stepThumb_66 rfl ?_
    refine lv_bipush (v := 31) hx hb dX0_stepThumb_67 (by decide) ?_
    refine lv_icmp_eq (tgt := 74) hx hb dX0_stepThumb_69 (by decide) (fun c_6 => ?_) (fun c_6 => ?_)
    · refine lv_iload_n hx hb dX0_stepThumb_74 rfl (lv_at hl 2 rfl) ?_
      refine lv_bipush (v := 7) hx hb dX0_stepThumb_75 (by decide) ?_
      refine lv_iand hx hb dX0_stepThumb_77 ?_
      refine lv_bipush (v := 19) hx hb dX0_stepThumb_78 (by decide) ?_
      refine lv_ishl hx hb dX0_stepThumb_80 ?_
      refine lv_iload_n hx hb dX0_stepThumb_81 rfl (lv_at hl 3 rfl) ?_
      refine lv_bipush (v := 11) hx hb dX0_stepThumb_82 (by decide) ?_
      refine lv_ishl hx hb dX0_stepThumb_84 ?_
      refine lv_ior hx hb dX0_stepThumb_85 ?_
      refine lv_iload hx hb dX0_stepThumb_86 (lv_at hl 0 rfl) ?_
      refine lv_bipush (v := 7) hx hb dX0_stepThumb_88 (by decide) ?_
      refine lv_iand hx hb dX0_stepThumb_90 ?_
      refine lv_bipush (v := 8) hx hb dX0_stepThumb_91 (by decide) ?_
      refine lv_ishl hx hb dX0_stepThumb_93 ?_
      refine lv_ior hx hb dX0_stepThumb_94 ?_
      refine lv_iload_n hx hb dX0_stepThumb_95 rfl (lv_at hl 1 rfl) ?_
      refine lv_ior hx hb dX0_stepThumb_96 ?_
      refine lv_topi (fun x_7 e_7 => ?_)
      refine lv_istore (lv' := [(5, .int x_7), (4, .int x_4), (3, .int x_3), (2, .int x_2), (1, .int x_1), (0, .ref q)]) hx hb dX0_stepThumb_97 hl (by decide) rfl (fun ls hl => ?_)
      refine lv_aload_n hx hb dX0_stepThumb_99 rfl (lv_at hl 5 rfl) ?_
      refine lv_iconst (v := 2) hx hb dX0_stepThumb_100 (by decide) ?_
      refine lv_iload hx hb dX0_stepThumb_101 (lv_at hl 0 rfl) ?_
      refine lv_imul hx hb dX0_stepThumb_103 ?_
      refine lv_aload_n hx hb dX0_stepThumb_104 rfl (lv_at hl 5 rfl) ?_
      refine va_get (D := D) (ci := 0) (v := .int pl) (C := RX0) (T := TX0) (N := 11) hx hb hts inX0 hown hK hP 0 rfl rfl 5 (by decide) k_42 (fun _ h9 => h9) rfl dX0_stepThumb_105 ?_
      refine lv_iconst (v := 4) hx hb dX0_stepThumb_108 (by decide) ?_
      refine lv_iadd hx hb dX0_stepThumb_109 ?_
      refine kCallI (As := [.int (2 * x_7), .int (pl + 4)]) (wc := [(q, .inr (0, [.ref ro, .ref pa, .int kd, .int ds, .int en, .int pl, .int (nI h), .int gv, .int rp, .int mk, .int la]))]) (wr := [(ro, .inr (1, [.ref rb, .int sz])), (rb, .inl (cI, 64, .inl g))]) (ws' := [(q, .inr (0, [.ref ro, .ref pa, .int kd, .int ds, .int en, .int pl, .int (nI h), .int gv, .int rp, .int mk, .int la])), (ro, .inr (1, [.ref rb, .int sz])), (rb, .inl (cI, 64, .inl g))]) (ci := 0) (C := RX0) ⟨hx, hb, hml, hown, hts⟩ (c_X0_moved l D cI cF cJ q ro pa kd ds en pl (nI h) gv rp mk la (2 * x_7) (pl + 4) ) (cwV 2 hts gX0_stepThumb_X0_moved rfl rfl rfl (by decide +kernel) ⟨Nat.le_of_ble_eq_true rfl, Nat.le_of_ble_eq_true rfl⟩) hK hP hD hS hA [0] [1, 2] [2, 0, 1] rfl rfl rfl rfl (by decide) rfl rfl rfl rfl rfl hl.1 (Nat.le_of_ble_eq_true rfl) ⟨Nat.zero_le _, Nat.zero_le _⟩ dX0_stepThumb_110 (fun H locs hP hD hS => ?_) rfl
      refine lv_iconst (v := 1) hx hb dX0_stepThumb_113 (by decide) ?_
      refine lv_iushr (v := (kU (cMd en (2 * x_7) (pl + 4)) 1)) hx hb dX0_stepThumb_114 rfl ?_
      refine lv_topi (fun x_8 e_8 => ?_)
      refine lv_istore (lv' := [(6, .int x_8), (5, .int x_7), (4, .int x_4), (3, .int x_3), (2, .int x_2), (1, .int x_1), (0, .ref q)]) hx hb dX0_stepThumb_115 hl (by decide) rfl (fun ls hl => ?_)
      refine lv_aload_n hx hb dX0_stepThumb_117 rfl (lv_at hl 6 rfl) ?_
      refine va_get (D := D) (ci := 0) (v := .ref ro) (C := RX0) (T := TX0) (N := 11) hx hb hts inX0 hown hK hP 0 rfl rfl 0 (by decide) k_14 (fun _ h9 => h9) rfl dX0_stepThumb_118 ?_
      refine lv_aload_n hx hb dX0_stepThumb_121 rfl (lv_at hl 6 rfl) ?_
      refine va_get (D := D) (ci := 0) (v := .int (nI h)) (C := RX0) (T := TX0) (N := 11) hx hb hts inX0 hown hK hP 0 rfl rfl 6 (by decide) k_65 (fun _ h9 => h9) rfl dX0_stepThumb_122 ?_
      refine lv_iload hx hb dX0_stepThumb_125 (lv_at hl 0 rfl) ?_
      refine lv_bipush (v := 11) hx hb dX0_stepThumb_127 (by decide) ?_
      refine lv_iushr (v := (kU x_8 11)) hx hb dX0_stepThumb_129 rfl ?_
      refine kCallV (As := [.int (nI h), .int (kU x_8 11)]) (wc := [(ro, .inr (1, [.ref rb, .int sz])), (rb, .inl (cI, 64, .inl g))]) (wr := [(q, .inr (0, [.ref ro, .ref pa, .int kd, .int ds, .int en, .int pl, .int (nI h), .int gv, .int rp, .int mk, .int la]))]) (ws' := [(q, .inr (0, [.ref ro, .ref pa, .int kd, .int ds, .int en, .int pl, .int (nI h), .int gv, .int rp, .int mk, .int la])), (ro, .inr (1, [.ref rb, .int sz])), (rb, .inl (cI, 64, .inl (upd g h ((kU x_8 11) &&& 255))))]) (ci := 1) (C := RX1) ⟨hx, hb, hml, hown, hts⟩ (c_X1_set l D cI cF cJ ro rb 64 h g sz (kU x_8 11) (by omega) (by omega)) (cwV 2 hts gX0_stepThumb_X1_set rfl rfl rfl (by decide +kernel) ⟨Nat.le_of_ble_eq_true rfl, Nat.le_of_ble_eq_true rfl⟩) hK hP hD hS hA [1, 2] [0] [0, 1, 2] rfl rfl rfl rfl (by decide) rfl rfl rfl rfl rfl hl.1 (Nat.le_of_ble_eq_true rfl) ⟨Nat.zero_le _, Nat.zero_le _⟩ dX0_stepThumb_130 (fun H locs hP hD hS => ?_) rfl
      refine lv_aload_n hx hb dX0_stepThumb_133 rfl (lv_at hl 6 rfl) ?_
      refine va_get (D := D) (ci := 0) (v := .ref ro) (C := RX0) (T := TX0) (N := 11) hx hb hts inX0 hown hK hP 0 rfl rfl 0 (by decide) k_14 (fun _ h9 => h9) rfl dX0_stepThumb_134 ?_
      refine lv_aload_n hx hb dX0_stepThumb_137 rfl (lv_at hl 6 rfl) ?_
      refine va_get (D := D) (ci := 0) (v := .int (nI h)) (C := RX0) (T := TX0) (N := 11) hx hb hts inX0 hown hK hP 0 rfl rfl 6 (by decide) k_65 (fun _ h9 => h9) rfl dX0_stepThumb_138 ?_
      refine lv_iconst (v := 1) hx hb dX0_stepThumb_141 (by decide) ?_
      refine lv_iadd hx hb dX0_stepThumb_142 ?_
      refine kTop (y := nI (h + 1)) (nI_add _ 1) ?_
      refine lv_sipush (v := 240) hx hb dX0_stepThumb_143 (by decide) ?_
      refine lv_iload hx hb dX0_stepThumb_146 (lv_at hl 0 rfl) ?_
      refine lv_bipush (v := 19) hx hb dX0_stepThumb_148 (by decide) ?_
      refine lv_iushr (v := (kU x_8 19)) hx hb dX0_stepThumb_150 rfl ?_
      refine lv_bipush (v := 7) hx hb dX0_stepThumb_151 (by decide) ?_
      refine lv_iand hx hb dX0_stepThumb_153 ?_
      refine lv_ior hx hb dX0_stepThumb_154 ?_
      refine kCallV (As := [.int (nI (h + 1)), .int (240 ||| ((kU x_8 19) &&& 7))]) (wc := [(ro, .inr (1, [.ref rb, .int sz])), (rb, .inl (cI, 64, .inl (upd g h ((kU x_8 11) &&& 255))))]) (wr := [(q, .inr (0, [.ref ro, .ref pa, .int kd, .int ds, .int en, .int pl, .int (nI h), .int gv, .int rp, .int mk, .int la]))]) (ws' := [(q, .inr (0, [.ref ro, .ref pa, .int kd, .int ds, .int en, .int pl, .int (nI h), .int gv, .int rp, .int mk, .int la])), (ro, .inr (1, [.ref rb, .int sz])), (rb, .inl (cI, 64, .inl (upd (upd g h ((kU x_8 11) &&& 255)) (h + 1) ((240 ||| ((kU x_8 19) &&& 7)) &&& 255))))]) (ci := 1) (C := RX1) ⟨hx, hb, hml, hown, hts⟩ (c_X1_set l D cI cF cJ ro rb 64 (h + 1) (upd g h ((kU x_8 11) &&& 255)) sz (240 ||| ((kU x_8 19) &&& 7)) (by omega) (by omega)) (cwV 2 hts gX0_stepThumb_X1_set rfl rfl rfl (by decide +kernel) ⟨Nat.le_of_ble_eq_true rfl, Nat.le_of_ble_eq_true rfl⟩) hK hP hD hS hA [1, 2] [0] [0, 1, 2] rfl rfl rfl rfl (by decide) rfl rfl rfl rfl rfl hl.1 (Nat.le_of_ble_eq_true rfl) ⟨Nat.zero_le _, Nat.zero_le _⟩ dX0_stepThumb_155 (fun H locs hP hD hS => ?_) rfl
      refine lv_aload_n hx hb dX0_stepThumb_158 rfl (lv_at hl 6 rfl) ?_
      refine va_get (D := D) (ci := 0) (v := .ref ro) (C := RX0) (T := TX0) (N := 11) hx hb hts inX0 hown hK hP 0 rfl rfl 0 (by decide) k_14 (fun _ h9 => h9) rfl dX0_stepThumb_159 ?_
      refine lv_aload_n hx hb dX0_stepThumb_162 rfl (lv_at hl 6 rfl) ?_
      refine va_get (D := D) (ci := 0) (v := .int (nI h)) (C := RX0) (T := TX0) (N := 11) hx hb hts inX0 hown hK hP 0 rfl rfl 6 (by decide) k_65 (fun _ h9 => h9) rfl dX0_stepThumb_163 ?_
      refine lv_iconst (v := 2) hx hb dX0_stepThumb_166 (by decide) ?_
      refine lv_iadd hx hb dX0_stepThumb_167 ?_
      refine kTop (y := nI (h + 2)) (nI_add _ 2) ?_
      refine lv_iload hx hb dX0_stepThumb_168 (lv_at hl 0 rfl) ?_
      refine kCallV (As := [.int (nI (h + 2)), .int x_8]) (wc := [(ro, .inr (1, [.ref rb, .int sz])), (rb, .inl (cI, 64, .inl (upd (upd g h ((kU x_8 11) &&& 255)) (h + 1) ((240 ||| ((kU x_8 19) &&& 7)) &&& 255))))]) (wr := [(q, .inr (0, [.ref ro, .ref pa, .int kd, .int ds, .int en, .int pl, .int (nI h), .int gv, .int rp, .int mk, .int la]))]) (ws' := [(q, .inr (0, [.ref ro, .ref pa, .int kd, .int ds, .int en, .int pl, .int (nI h), .int gv, .int rp, .int mk, .int la])), (ro, .inr (1, [.ref rb, .int sz])), (rb, .inl (cI, 64, .inl (upd (upd (upd g h ((kU x_8 11) &&& 255)) (h + 1) ((240 ||| ((kU x_8 19) &&& 7)) &&& 255)) (h + 2) (x_8 &&& 255))))]) (ci := 1) (C := RX1) ⟨hx, hb, hml, hown, hts⟩ (c_X1_set l D cI cF cJ ro rb 64 (h + 2) (upd (upd g h ((kU x_8 11) &&& 255)) (h + 1) ((240 ||| ((kU x_8 19) &&& 7)) &&& 255)) sz x_8 (by omega) (by omega)) (cwV 2 hts gX0_stepThumb_X1_set rfl rfl rfl (by decide +kernel) ⟨Nat.le_of_ble_eq_true rfl, Nat.le_of_ble_eq_true rfl⟩) hK hP hD hS hA [1, 2] [0] [0, 1, 2] rfl rfl rfl rfl (by decide) rfl rfl rfl rfl rfl hl.1 (Nat.le_of_ble_eq_true rfl) ⟨Nat.zero_le _, Nat.zero_le _⟩ dX0_stepThumb_170 (fun H locs hP hD hS => ?_) rfl
      refine lv_aload_n hx hb dX0_stepThumb_173 rfl (lv_at hl 6 rfl) ?_
      refine va_get (D := D) (ci := 0) (v := .ref ro) (C := RX0) (T := TX0) (N := 11) hx hb hts inX0 hown hK hP 0 rfl rfl 0 (by decide) k_14 (fun _ h9 => h9) rfl dX0_stepThumb_174 ?_
      refine lv_aload_n hx hb dX0_stepThumb_177 rfl (lv_at hl 6 rfl) ?_
      refine va_get (D := D) (ci := 0) (v := .int (nI h)) (C := RX0) (T := TX0) (N := 11) hx hb hts inX0 hown hK hP 0 rfl rfl 6 (by decide) k_65 (fun _ h9 => h9) rfl dX0_stepThumb_178 ?_
      refine lv_iconst (v := 3) hx hb dX0_stepThumb_181 (by decide) ?_
      refine lv_iadd hx hb dX0_stepThumb_182 ?_
      refine kTop (y := nI (h + 3)) (nI_add _ 3) ?_
      refine lv_sipush (v := 248) hx hb dX0_stepThumb_183 (by decide) ?_
      refine lv_iload hx hb dX0_stepThumb_186 (lv_at hl 0 rfl) ?_
      refine lv_bipush (v := 8) hx hb dX0_stepThumb_188 (by decide) ?_
      refine lv_iushr (v := (kU x_8 8)) hx hb dX0_stepThumb_190 rfl ?_
      refine lv_bipush (v := 7) hx hb dX0_stepThumb_191 (by decide) ?_
      refine lv_iand hx hb dX0_stepThumb_193 ?_
      refine lv_ior hx hb dX0_stepThumb_194 ?_
      refine kCallV (As := [.int (nI (h + 3)), .int (248 ||| ((kU x_8 8) &&& 7))]) (wc := [(ro, .inr (1, [.ref rb, .int sz])), (rb, .inl (cI, 64, .inl (upd (upd (upd g h ((kU x_8 11) &&& 255)) (h + 1) ((240 ||| ((kU x_8 19) &&& 7)) &&& 255)) (h + 2) (x_8 &&& 255))))]) (wr := [(q, .inr (0, [.ref ro, .ref pa, .int kd, .int ds, .int en, .int pl, .int (nI h), .int gv, .int rp, .int mk, .int la]))]) (ws' := [(q, .inr (0, [.ref ro, .ref pa, .int kd, .int ds, .int en, .int pl, .int (nI h), .int gv, .int rp, .int mk, .int la])), (ro, .inr (1, [.ref rb, .int sz])), (rb, .inl (cI, 64, .inl (upd (upd (upd (upd g h ((kU x_8 11) &&& 255)) (h + 1) ((240 ||| ((kU x_8 19) &&& 7)) &&& 255)) (h + 2) (x_8 &&& 255)) (h + 3) ((248 ||| ((kU x_8 8) &&& 7)) &&& 255))))]) (ci := 1) (C := RX1) ⟨hx, hb, hml, hown, hts⟩ (c_X1_set l D cI cF cJ ro rb 64 (h + 3) (upd (upd (upd g h ((kU x_8 11) &&& 255)) (h + 1) ((240 ||| ((kU x_8 19) &&& 7)) &&& 255)) (h + 2) (x_8 &&& 255)) sz (248 ||| ((kU x_8 8) &&& 7)) (by omega) (by omega)) (cwV 2 hts gX0_stepThumb_X1_set rfl rfl rfl (by decide +kernel) ⟨Nat.le_of_ble_eq_true rfl, Nat.le_of_ble_eq_true rfl⟩) hK hP hD hS hA [1, 2] [0] [0, 1, 2] rfl rfl rfl rfl (by decide) rfl rfl rfl rfl rfl hl.1 (Nat.le_of_ble_eq_true rfl) ⟨Nat.zero_le _, Nat.zero_le _⟩ dX0_stepThumb_195 (fun H locs hP hD hS => ?_) rfl
      refine lv_aload_n hx hb dX0_stepThumb_198 rfl (lv_at hl 6 rfl) ?_
      refine lv_dup hx hb dX0_stepThumb_199 rfl ?_
      refine va_get (D := D) (ci := 0) (v := .int rp) (C := RX0) (T := TX0) (N := 11) hx hb hts inX0 hown hK hP 0 rfl rfl 8 (by decide) k_48 (fun _ h9 => h9) rfl dX0_stepThumb_200 ?_
      refine lv_iconst (v := 1) hx hb dX0_stepThumb_203 (by decide) ?_
      refine lv_iadd hx hb dX0_stepThumb_204 ?_
      refine kPut (D := D) (ci := 0) (v := .int (rp + 1)) (ty := .int) (C := RX0) (T := TX0) (N := 11) (ws' := [(q, .inr (0, [.ref ro, .ref pa, .int kd, .int ds, .int en, .int pl, .int (nI h), .int gv, .int (rp + 1), .int mk, .int la])), (ro, .inr (1, [.ref rb, .int sz])), (rb, .inl (cI, 64, .inl (upd (upd (upd (upd g h ((kU x_8 11) &&& 255)) (h + 1) ((240 ||| ((kU x_8 19) &&& 7)) &&& 255)) (h + 2) (x_8 &&& 255)) (h + 3) ((248 ||| ((kU x_8 8) &&& 7)) &&& 255))))]) hx hb hts inX0 tyX0 tyX0_ok nmX0 hown hK hP hD hS 0 rfl rfl 8 (by decide) k_48 rfl (by decide +kernel) (rfl) (by first | rfl | decide) (Nat.le_of_ble_eq_true rfl) rfl dX0_stepThumb_205 (fun H locs hP hD hS => ?_)
      refine lv_iconst (v := 4) hx hb dX0_stepThumb_208 (by decide) ?_
      subst e_8
      subst e_7
      subst e_4
      subst e_3
      subst e_2
      subst e_1
      have e9 : cThumb en pl rp h g = (4, rp + 1, upd (upd (upd (upd g h ((kU (kU (cMd en (2 * ((((((g (h + 1)) &&& 7) <<< ((19 : Int32) &&& 31)) ||| ((g h) <<< ((11 : Int32) &&& 31))) ||| (((g (h + 3)) &&& 7) <<< ((8 : Int32) &&& 31))) ||| (g (h + 2)))) (pl + 4)) 1) 11) &&& 255)) (h + 1) ((240 ||| ((kU (kU (cMd en (2 * ((((((g (h + 1)) &&& 7) <<< ((19 : Int32) &&& 31)) ||| ((g h) <<< ((11 : Int32) &&& 31))) ||| (((g (h + 3)) &&& 7) <<< ((8 : Int32) &&& 31))) ||| (g (h + 2)))) (pl + 4)) 1) 19) &&& 7)) &&& 255)) (h + 2) ((kU (cMd en (2 * ((((((g (h + 1)) &&& 7) <<< ((19 : Int32) &&& 31)) ||| ((g h) <<< ((11 : Int32) &&& 31))) ||| (((g (h + 3)) &&& 7) <<< ((8 : Int32) &&& 31))) ||| (g (h + 2)))) (pl + 4)) 1) &&& 255)) (h + 3) ((248 ||| ((kU (kU (cMd en (2 * ((((((g (h + 1)) &&& 7) <<< ((19 : Int32) &&& 31)) ||| ((g h) <<< ((11 : Int32) &&& 31))) ||| (((g (h + 3)) &&& 7) <<< ((8 : Int32) &&& 31))) ||| (g (h + 2)))) (pl + 4)) 1) 8) &&& 7)) &&& 255)) := (if_pos c_5).trans (if_pos c_6)
      exact hret _ _ _ _ _ dX0_stepThumb_209 (by rw [e9]) (by rw [e9]; exact hP) (by rw [e9]; exact hD) hS
    · refine lv_iconst (v := 2) hx hb dX0_stepThumb_72 (by decide) ?_
      subst e_4
      subst e_3
      subst e_2
      subst e_1
      have e9 : cThumb en pl rp h g = (2, rp, g) := (if_pos c_5).trans (if_neg c_6)
      exact hret _ _ _ _ _ dX0_stepThumb_73 (by rw [e9]) (by rw [e9]; exact hP) (by rw [e9]; exact hD) hS

def cPower (en : Int32) (pl : Int32) (rp : Int32) (h : Nat) (g : Nat → Int32) : Int32 × Int32 × (Nat → Int32) := (if kU (cHi g h) 26 = 18 then (if (cHi g h) &&& 3 = 1 then (4, rp + 1, cSetHi g h (((cHi g h) &&& (-67108861)) ||| ((cMd en ((cHi g h) &&& 67108860) pl) &&& 67108860))) else (4, rp, g)) else (4, rp, g))

set_option maxHeartbeats 4000000 in
set_option maxRecDepth 100000 in
/-- Filter.stepPower() -/
theorem c_X0_stepPower (l : Launch) (D : va_G) (cI cF cJ : ClassId) (q ro pa rb h : Nat) (kd ds en pl gv rp mk la sz : Int32) (g : Nat → Int32) (hk : h + 3 < 64) : kI l yX0_stepPower wsX0_stepPower ({ frames := 1, cells := 0, slots := 0, locals := 22 }) D (kTy cI cF cJ) [.ref q] [(q, .inr (0, [.ref ro, .ref pa, .int kd, .int ds, .int en, .int pl, .int (nI h), .int gv, .int rp, .int mk, .int la])), (ro, .inr (1, [.ref rb, .int sz])), (rb, .inl (cI, 64, .inl g))] [(q, .inr (0, [.ref ro, .ref pa, .int kd, .int ds, .int en, .int pl, .int (nI h), .int gv, .int ((cPower en pl rp h g).2.1), .int mk, .int la])), (ro, .inr (1, [.ref rb, .int sz])), (rb, .inl (cI, 64, .inl ((cPower en pl rp h g).2.2)))] ((cPower en pl rp h g).1) := by
  refine kI_of (cc := cX0_stepPower) (nL := 3) (ty := .int) (own := RX0) (lv := [(0, .ref q)]) (by decide) rfl rfl (Nat.le_of_ble_eq_true rfl) rfl (rfl) ?_
  intro p e s m args below meth c A ls Q C hA hK hP hD hS hl hret
  obtain ⟨hx, hb, hr, hml, hown, hts, hlocks⟩ := C
  have k_118 := hts (.constant RX0 118 (67108860)) (by decide +kernel)
  have k_119 := hts (.constant RX0 119 (-67108861)) (by decide +kernel)
  have k_14 := hts (.fieldLink RX0 14 "BranchFilters$Filter" "held" "LBranchFilters$Row;") (by decide +kernel)
  have k_42 := hts (.fieldLink RX0 42 "BranchFilters$Filter" "place" "I") (by decide +kernel)
  have k_48 := hts (.fieldLink RX0 48 "BranchFilters$Filter" "replaced" "I") (by decide +kernel)
  have k_65 := hts (.fieldLink RX0 65 "BranchFilters$Filter" "here" "I") (by decide +kernel)
  have inX0 : ∀ w ∈ wsX00, w ∈ wsX0_stepPower := by decide +kernel
  refine lv_aload_n hx hb dX0_stepPower_0 rfl (lv_at hl 0 rfl) ?_
  refine va_get (D := D) (ci := 0) (v := .ref ro) (C := RX0) (T := TX0) (N := 11) hx hb hts inX0 hown hK hP 0 rfl rfl 0 (by decide) k_14 (fun _ h9 => h9) rfl dX0_stepPower_1 ?_
  refine lv_aload_n hx hb dX0_stepPower_4 rfl (lv_at hl 0 rfl) ?_
  refine va_get (D := D) (ci := 0) (v := .int (nI h)) (C := RX0) (T := TX0) (N := 11) hx hb hts inX0 hown hK hP 0 rfl rfl 6 (by decide) k_65 (fun _ h9 => h9) rfl dX0_stepPower_5 ?_
  refine kCallI (As := [.int (nI h)]) (wc := [(ro, .inr (1, [.ref rb, .int sz])), (rb, .inl (cI, 64, .inl g))]) (wr := [(q, .inr (0, [.ref ro, .ref pa, .int kd, .int ds, .int en, .int pl, .int (nI h), .int gv, .int rp, .int mk, .int la]))]) (ws' := [(q, .inr (0, [.ref ro, .ref pa, .int kd, .int ds, .int en, .int pl, .int (nI h), .int gv, .int rp, .int mk, .int la])), (ro, .inr (1, [.ref rb, .int sz])), (rb, .inl (cI, 64, .inl g))]) (ci := 1) (C := RX1) ⟨hx, hb, hml, hown, hts⟩ (c_X1_highestFirst l D cI cF cJ ro rb 64 h g sz (by omega) (by omega)) (cwV 1 hts gX0_stepPower_X1_highestFirst rfl rfl rfl (by decide +kernel) ⟨Nat.le_of_ble_eq_true rfl, Nat.le_of_ble_eq_true rfl⟩) hK hP hD hS hA [1, 2] [0] [0, 1, 2] rfl rfl rfl rfl (by decide) rfl rfl rfl rfl rfl hl.1 (Nat.le_of_ble_eq_true rfl) ⟨Nat.zero_le _, Nat.zero_le _⟩ dX0_stepPower_8 (fun H locs hP hD hS => ?_) rfl
  refine lv_topi (fun x_1 e_1 => ?_)
  refine lv_istore_n (lv' := [(1, .int x_1), (0, .ref q)]) hx hb dX0_stepPower_11 rfl hl (by decide) rfl (fun ls hl => ?_)
  refine lv_iload_n hx hb dX0_stepPower_12 rfl (lv_at hl 0 rfl) ?_
  refine lv_bipush (v := 26) hx hb dX0_stepPower_13 (by decide) ?_
  refine lv_iushr (v := (kU x_1 26)) hx hb dX0_stepPower_15 rfl ?_
  refine lv_bipush (v := 18) hx hb dX0_stepPower_16 (by decide) ?_
  refine lv_icmp_ne (tgt := 71) hx hb dX0_stepPower_18 (by decide) (fun c_2 => ?_) (fun c_2 => ?_)
  · refine lv_iconst (v := 4) hx hb dX0_stepPower_71 (by decide) ?_
    subst e_1
    have e9 : cPower en pl rp h g = (4, rp, g) := if_neg c_2
    exact hret _ _ _ _ _ dX0_stepPower_72 (by rw [e9]) (by rw [e9]; exact hP) (by rw [e9]; exact hD) hS
  · refine lv_iload_n hx hb dX0_stepPower_21 rfl (lv_at hl 0 rfl) ?_
    refine lv_iconst (v := 3) hx hb dX0_stepPower_22 (by decide) ?_
    refine lv_iand hx hb dX0_stepPower_23 ?_
    refine lv_iconst (v := 1) hx hb dX0_stepPower_24 (by decide) ?_
    refine lv_icmp_ne (tgt := 71) hx hb dX0_stepPower_25 (by decide) (fun c_3 => ?_) (fun c_3 => ?_)
    · refine lv_iconst (v := 4) hx hb dX0_stepPower_71 (by decide) ?_
      subst e_1
      have e9 : cPower en pl rp h g = (4, rp, g) := (if_pos c_2).trans (if_neg c_3)
      exact hret _ _ _ _ _ dX0_stepPower_72 (by rw [e9]) (by rw [e9]; exact hP) (by rw [e9]; exact hD) hS
    · refine lv_aload_n hx hb dX0_stepPower_28 rfl (lv_at hl 1 rfl) ?_
      refine lv_iload_n hx hb dX0_stepPower_29 rfl (lv_at hl 0 rfl) ?_
      refine lv_ldc (v := 67108860) hx hb hown k_118 dX0_stepPower_30 ?_
      refine lv_iand hx hb dX0_stepPower_32 ?_
      refine lv_aload_n hx hb dX0_stepPower_33 rfl (lv_at hl 1 rfl) ?_
      refine va_get (D := D) (ci := 0) (v := .int pl) (C := RX0) (T := TX0) (N := 11) hx hb hts inX0 hown hK hP 0 rfl rfl 5 (by decide) k_42 (fun _ h9 => h9) rfl dX0_stepPower_34 ?_
      refine kCallI (As := [.int (x_1 &&& 67108860), .int pl]) (wc := [(q, .inr (0, [.ref ro, .ref pa, .int kd, .int ds, .int en, .int pl, .int (nI h), .int gv, .int rp, .int mk, .int la]))]) (wr := [(ro, .inr (1, [.ref rb, .int sz])), (rb, .inl (cI, 64, .inl g))]) (ws' := [(q, .inr (0, [.ref ro, .ref pa, .int kd, .int ds, .int en, .int pl, .int (nI h), .int gv, .int rp, .int mk, .int la])), (ro, .inr (1, [.ref rb, .int sz])), (rb, .inl (cI, 64, .inl g))]) (ci := 0) (C := RX0) ⟨hx, hb, hml, hown, hts⟩ (c_X0_moved l D cI cF cJ q ro pa kd ds en pl (nI h) gv rp mk la (x_1 &&& 67108860) pl ) (cwV 2 hts gX0_stepPower_X0_moved rfl rfl rfl (by decide +kernel) ⟨Nat.le_of_ble_eq_true rfl, Nat.le_of_ble_eq_true rfl⟩) hK hP hD hS hA [0] [1, 2] [2, 0, 1] rfl rfl rfl rfl (by decide) rfl rfl rfl rfl rfl hl.1 (Nat.le_of_ble_eq_true rfl) ⟨Nat.zero_le _, Nat.zero_le _⟩ dX0_stepPower_37 (fun H locs hP hD hS => ?_) rfl
      refine lv_topi (fun x_4 e_4 => ?_)
      refine lv_istore_n (lv' := [(2, .int x_4), (1, .int x_1), (0, .ref q)]) hx hb dX0_stepPower_40 rfl hl (by decide) rfl (fun ls hl => ?_)
      refine lv_aload_n hx hb dX0_stepPower_41 rfl (lv_at hl 2 rfl) ?_
      refine va_get (D := D) (ci := 0) (v := .ref ro) (C := RX0) (T := TX0) (N := 11) hx hb hts inX0 hown hK hP 0 rfl rfl 0 (by decide) k_14 (fun _ h9 => h9) rfl dX0_stepPower_42 ?_
      refine lv_aload_n hx hb dX0_stepPower_45 rfl (lv_at hl 2 rfl) ?_
      refine va_get (D := D) (ci := 0) (v := .int (nI h)) (C := RX0) (T := TX0) (N := 11) hx hb hts inX0 hown hK hP 0 rfl rfl 6 (by decide) k_65 (fun _ h9 => h9) rfl dX0_stepPower_46 ?_
      refine lv_iload_n hx hb dX0_stepPower_49 rfl (lv_at hl 1 rfl) ?_
      refine lv_ldc (v := (-67108861)) hx hb hown k_119 dX0_stepPower_50 ?_
      refine lv_iand hx hb dX0_stepPower_52 ?_
      refine lv_iload_n hx hb dX0_stepPower_53 rfl (lv_at hl 0 rfl) ?_
      refine lv_ldc (v := 67108860) hx hb hown k_118 dX0_stepPower_54 ?_
      refine lv_iand hx hb dX0_stepPower_56 ?_
      refine lv_ior hx hb dX0_stepPower_57 ?_
      refine kCallV (As := [.int (nI h), .int ((x_1 &&& (-67108861)) ||| (x_4 &&& 67108860))]) (wc := [(ro, .inr (1, [.ref rb, .int sz])), (rb, .inl (cI, 64, .inl g))]) (wr := [(q, .inr (0, [.ref ro, .ref pa, .int kd, .int ds, .int en, .int pl, .int (nI h), .int gv, .int rp, .int mk, .int la]))]) (ws' := [(q, .inr (0, [.ref ro, .ref pa, .int kd, .int ds, .int en, .int pl, .int (nI h), .int gv, .int rp, .int mk, .int la])), (ro, .inr (1, [.ref rb, .int sz])), (rb, .inl (cI, 64, .inl (cSetHi g h ((x_1 &&& (-67108861)) ||| (x_4 &&& 67108860)))))]) (ci := 1) (C := RX1) ⟨hx, hb, hml, hown, hts⟩ (c_X1_setHighestFirst l D cI cF cJ ro rb 64 h g sz ((x_1 &&& (-67108861)) ||| (x_4 &&& 67108860)) (by omega) (by omega)) (cwV 2 hts gX0_stepPower_X1_setHighestFirst rfl rfl rfl (by decide +kernel) ⟨Nat.le_of_ble_eq_true rfl, Nat.le_of_ble_eq_true rfl⟩) hK hP hD hS hA [1, 2] [0] [0, 1, 2] rfl rfl rfl rfl (by decide) rfl rfl rfl rfl rfl hl.1 (Nat.le_of_ble_eq_true rfl) ⟨Nat.zero_le _, Nat.zero_le _⟩ dX0_stepPower_58 (fun H locs hP hD hS => ?_) rfl
      refine lv_aload_n hx hb dX0_stepPower_61 rfl (lv_at hl 2 rfl) ?_
      refine lv_dup hx hb dX0_stepPower_62 rfl ?_
      refine va_get (D := D) (ci := 0) (v := .int rp) (C := RX0) (T := TX0) (N := 11) hx hb hts inX0 hown hK hP 0 rfl rfl 8 (by decide) k_48 (fun _ h9 => h9) rfl dX0_stepPower_63 ?_
      refine lv_iconst (v := 1) hx hb dX0_stepPower_66 (by decide) ?_
      refine lv_iadd hx hb dX0_stepPower_67 ?_
      refine kPut (D := D) (ci := 0) (v := .int (rp + 1)) (ty := .int) (C := RX0) (T := TX0) (N := 11) (ws' := [(q, .inr (0, [.ref ro, .ref pa, .int kd, .int ds, .int en, .int pl, .int (nI h), .int gv, .int (rp + 1), .int mk, .int la])), (ro, .inr (1, [.ref rb, .int sz])), (rb, .inl (cI, 64, .inl (cSetHi g h ((x_1 &&& (-67108861)) ||| (x_4 &&& 67108860)))))]) hx hb hts inX0 tyX0 tyX0_ok nmX0 hown hK hP hD hS 0 rfl rfl 8 (by decide) k_48 rfl (by decide +kernel) (rfl) (by first | rfl | decide) (Nat.le_of_ble_eq_true rfl) rfl dX0_stepPower_68 (fun H locs hP hD hS => ?_)
      refine lv_iconst (v := 4) hx hb dX0_stepPower_71 (by decide) ?_
      subst e_4
      subst e_1
      have e9 : cPower en pl rp h g = (4, rp + 1, cSetHi g h (((cHi g h) &&& (-67108861)) ||| ((cMd en ((cHi g h) &&& 67108860) pl) &&& 67108860))) := (if_pos c_2).trans (if_pos c_3)
      exact hret _ _ _ _ _ dX0_stepPower_72 (by rw [e9]) (by rw [e9]; exact hP) (by rw [e9]; exact hD) hS

def cSparc (en : Int32) (pl : Int32) (rp : Int32) (h : Nat) (g : Nat → Int32) : Int32 × Int32 × (Nat → Int32) := (if (kU (cHi g h) 22) = 256 then (if (kU (kU (cMd en (4 * (cHi g h)) pl) 2) 22) &&& 1 = 1 then (4, rp + 1, cSetHi g h ((1073741824 ||| 1069547520) ||| ((kU (cMd en (4 * (cHi g h)) pl) 2) &&& 4194303))) else (4, rp + 1, cSetHi g h ((1073741824 ||| 0) ||| ((kU (cMd en (4 * (cHi g h)) pl) 2) &&& 4194303)))) else (if (kU (cHi g h) 22) = 511 then (if (kU (kU (cMd en (4 * (cHi g h)) pl) 2) 22) &&& 1 = 1 then (4, rp + 1, cSetHi g h ((1073741824 ||| 1069547520) ||| ((kU (cMd en (4 * (cHi g h)) pl) 2) &&& 4194303))) else (4, rp + 1, cSetHi g h ((1073741824 ||| 0) ||| ((kU (cMd en (4 * (cHi g h)) pl) 2) &&& 4194303)))) else (4, rp, g)))

set_option maxHeartbeats 4000000 in
set_option maxRecDepth 100000 in
/-- Filter.stepSparc() -/
theorem c_X0_stepSparc (l : Launch) (D : va_G) (cI cF cJ : ClassId) (q ro pa rb h : Nat) (kd ds en pl gv rp mk la sz : Int32) (g : Nat → Int32) (hk : h + 3 < 64) : kI l yX0_stepSparc wsX0_stepSparc ({ frames := 1, cells := 0, slots := 0, locals := 22 }) D (kTy cI cF cJ) [.ref q] [(q, .inr (0, [.ref ro, .ref pa, .int kd, .int ds, .int en, .int pl, .int (nI h), .int gv, .int rp, .int mk, .int la])), (ro, .inr (1, [.ref rb, .int sz])), (rb, .inl (cI, 64, .inl g))] [(q, .inr (0, [.ref ro, .ref pa, .int kd, .int ds, .int en, .int pl, .int (nI h), .int gv, .int ((cSparc en pl rp h g).2.1), .int mk, .int la])), (ro, .inr (1, [.ref rb, .int sz])), (rb, .inl (cI, 64, .inl ((cSparc en pl rp h g).2.2)))] ((cSparc en pl rp h g).1) := by
  refine kI_of (cc := cX0_stepSparc) (nL := 5) (ty := .int) (own := RX0) (lv := [(0, .ref q)]) (by decide) rfl rfl (Nat.le_of_ble_eq_true rfl) rfl (rfl) ?_
  intro p e s m args below meth c A ls Q C hA hK hP hD hS hl hret
  obtain ⟨hx, hb, hr, hml, hown, hts, hlocks⟩ := C
  have k_123 := hts (.constant RX0 123 (1069547520)) (by decide +kernel)
  have k_124 := hts (.constant RX0 124 (1073741824)) (by decide +kernel)
  have k_125 := hts (.constant RX0 125 (4194303)) (by decide +kernel)
  have k_14 := hts (.fieldLink RX0 14 "BranchFilters$Filter" "held" "LBranchFilters$Row;") (by decide +kernel)
  have k_42 := hts (.fieldLink RX0 42 "BranchFilters$Filter" "place" "I") (by decide +kernel)
  have k_48 := hts (.fieldLink RX0 48 "BranchFilters$Filter" "replaced" "I") (by decide +kernel)
  have k_65 := hts (.fieldLink RX0 65 "BranchFilters$Filter" "here" "I") (by decide +kernel)
  have inX0 : ∀ w ∈ wsX00, w ∈ wsX0_stepSparc := by decide +kernel
  refine lv_aload_n hx hb dX0_stepSparc_0 rfl (lv_at hl 0 rfl) ?_
  refine va_get (D := D) (ci := 0) (v := .ref ro) (C := RX0) (T := TX0) (N := 11) hx hb hts inX0 hown hK hP 0 rfl rfl 0 (by decide) k_14 (fun _ h9 => h9) rfl dX0_stepSparc_1 ?_
  refine lv_aload_n hx hb dX0_stepSparc_4 rfl (lv_at hl 0 rfl) ?_
  refine va_get (D := D) (ci := 0) (v := .int (nI h)) (C := RX0) (T := TX0) (N := 11) hx hb hts inX0 hown hK hP 0 rfl rfl 6 (by decide) k_65 (fun _ h9 => h9) rfl dX0_stepSparc_5 ?_
  refine kCallI (As := [.int (nI h)]) (wc := [(ro, .inr (1, [.ref rb, .int sz])), (rb, .inl (cI, 64, .inl g))]) (wr := [(q, .inr (0, [.ref ro, .ref pa, .int kd, .int ds, .int en, .int pl, .int (nI h), .int gv, .int rp, .int mk, .int la]))]) (ws' := [(q, .inr (0, [.ref ro, .ref pa, .int kd, .int ds, .int en, .int pl, .int (nI h), .int gv, .int rp, .int mk, .int la])), (ro, .inr (1, [.ref rb, .int sz])), (rb, .inl (cI, 64, .inl g))]) (ci := 1) (C := RX1) ⟨hx, hb, hml, hown, hts⟩ (c_X1_highestFirst l D cI cF cJ ro rb 64 h g sz (by omega) (by omega)) (cwV 1 hts gX0_stepSparc_X1_highestFirst rfl rfl rfl (by decide +kernel) ⟨Nat.le_of_ble_eq_true rfl, Nat.le_of_ble_eq_true rfl⟩) hK hP hD hS hA [1, 2] [0] [0, 1, 2] rfl rfl rfl rfl (by decide) rfl rfl rfl rfl rfl hl.1 (Nat.le_of_ble_eq_true rfl) ⟨Nat.zero_le _, Nat.zero_le _⟩ dX0_stepSparc_8 (fun H locs hP hD hS => ?_) rfl
  refine lv_topi (fun x_1 e_1 => ?_)
  refine lv_istore_n (lv' := [(1, .int x_1), (0, .ref q)]) hx hb dX0_stepSparc_11 rfl hl (by decide) rfl (fun ls hl => ?_)
  refine lv_iload_n hx hb dX0_stepSparc_12 rfl (lv_at hl 0 rfl) ?_
  refine lv_bipush (v := 22) hx hb dX0_stepSparc_13 (by decide) ?_
  refine lv_iushr (v := (kU x_1 22)) hx hb dX0_stepSparc_15 rfl ?_
  refine lv_topi (fun x_2 e_2 => ?_)
  refine lv_istore_n (lv' := [(2, .int x_2), (1, .int x_1), (0, .ref q)]) hx hb dX0_stepSparc_16 rfl hl (by decide) rfl (fun ls hl => ?_)
  refine lv_iload_n hx hb dX0_stepSparc_17 rfl (lv_at hl 0 rfl) ?_
  refine lv_sipush (v := 256) hx hb dX0_stepSparc_18 (by decide) ?_
  refine lv_icmp_eq (tgt := 31) hx hb dX0_stepSparc_21 (by decide) (fun c_3 => ?_) (fun c_3 => ?_)
  · refine lv_aload_n hx hb dX0_stepSparc_31 rfl (lv_at hl 2 rfl) ?_
    refine lv_iconst (v := 4) hx hb dX0_stepSparc_32 (by decide) ?_
    refine lv_iload_n hx hb dX0_stepSparc_33 rfl (lv_at hl 1 rfl) ?_
    refine lv_imul hx hb dX0_stepSparc_34 ?_
    refine lv_aload_n hx hb dX0_stepSparc_35 rfl (lv_at hl 2 rfl) ?_
    refine va_get (D := D) (ci := 0) (v := .int pl) (C := RX0) (T := TX0) (N := 11) hx hb hts inX0 hown hK hP 0 rfl rfl 5 (by decide) k_42 (fun _ h9 => h9) rfl dX0_stepSparc_36 ?_
    refine kCallI (As := [.int (4 * x_1), .int pl]) (wc := [(q, .inr (0, [.ref ro, .ref pa, .int kd, .int ds, .int en, .int pl, .int (nI h), .int gv, .int rp, .int mk, .int la]))]) (wr := [(ro, .inr (1, [.ref rb, .int sz])), (rb, .inl (cI, 64, .inl g))]) (ws' := [(q, .inr (0, [.ref ro, .ref pa, .int kd, .int ds, .int en, .int pl, .int (nI h), .int gv, .int rp, .int mk, .int la])), (ro, .inr (1, [.ref rb, .int sz])), (rb, .inl (cI, 64, .inl g))]) (ci := 0) (C := RX0) ⟨hx, hb, hml, hown, hts⟩ (c_X0_moved l D cI cF cJ q ro pa kd ds en pl (nI h) gv rp mk la (4 * x_1) pl ) (cwV 2 hts gX0_stepSparc_X0_moved rfl rfl rfl (by decide +kernel) ⟨Nat.le_of_ble_eq_true rfl, Nat.le_of_ble_eq_true rfl⟩) hK hP hD hS hA [0] [1, 2] [2, 0, 1] rfl rfl rfl rfl (by decide) rfl rfl rfl rfl rfl hl.1 (Nat.le_of_ble_eq_true rfl) ⟨Nat.zero_le _, Nat.zero_le _⟩ dX0_stepSparc_39 (fun H locs hP hD hS => ?_) rfl
    refine lv_iconst (v := 2) hx hb dX0_stepSparc_42 (by decide) ?_
    refine lv_iushr (v := (kU (cMd en (4 * x_1) pl) 2)) hx hb dX0_stepSparc_43 rfl ?_
    refine lv_topi (fun x_4 e_4 => ?_)
    refine lv_istore_n (lv' := [(3, .int x_4), (2, .int x_2), (1, .int x_1), (0, .ref q)]) hx hb dX0_stepSparc_44 rfl hl (by decide) rfl (fun ls hl => ?_)
    refine lv_iload_n hx hb dX0_stepSparc_45 rfl (lv_at hl 0 rfl) ?_
    refine lv_bipush (v := 22) hx hb dX0_stepSparc_46 (by decide) ?_
    refine lv_iushr (v := (kU x_4 22)) hx hb dX0_stepSparc_48 rfl ?_
    refine lv_iconst (v := 1) hx hb dX0_stepSparc_49 (by decide) ?_
    refine lv_iand hx hb dX0_stepSparc_50 ?_
    refine lv_iconst (v := 1) hx hb dX0_stepSparc_51 (by decide) ?_
    refine lv_icmp_ne (tgt := 60) hx hb dX0_stepSparc_52 (by decide) (fun c_5 => ?_) (fun c_5 => ?_)
    · refine lv_iconst (v := 0) hx hb dX0_stepSparc_60 (by decide) ?_
      refine lv_istore (lv' := [(4, .int 0), (3, .int x_4), (2, .int x_2), (1, .int x_1), (0, .ref q)]) hx hb dX0_stepSparc_61 hl (by decide) rfl (fun ls hl => ?_)
      refine lv_aload_n hx hb dX0_stepSparc_63 rfl (lv_at hl 4 rfl) ?_
      refine va_get (D := D) (ci := 0) (v := .ref ro) (C := RX0) (T := TX0) (N := 11) hx hb hts inX0 hown hK hP 0 rfl rfl 0 (by decide) k_14 (fun _ h9 => h9) rfl dX0_stepSparc_64 ?_
      refine lv_aload_n hx hb dX0_stepSparc_67 rfl (lv_at hl 4 rfl) ?_
      refine va_get (D := D) (ci := 0) (v := .int (nI h)) (C := RX0) (T := TX0) (N := 11) hx hb hts inX0 hown hK hP 0 rfl rfl 6 (by decide) k_65 (fun _ h9 => h9) rfl dX0_stepSparc_68 ?_
      refine lv_ldc (v := 1073741824) hx hb hown k_124 dX0_stepSparc_71 ?_
      refine lv_iload hx hb dX0_stepSparc_73 (lv_at hl 0 rfl) ?_
      refine lv_ior hx hb dX0_stepSparc_75 ?_
      refine lv_iload_n hx hb dX0_stepSparc_76 rfl (lv_at hl 1 rfl) ?_
      refine lv_ldc (v := 4194303) hx hb hown k_125 dX0_stepSparc_77 ?_
      refine lv_iand hx hb dX0_stepSparc_79 ?_
      refine lv_ior hx hb dX0_stepSparc_80 ?_
      refine kCallV (As := [.int (nI h), .int ((1073741824 ||| 0) ||| (x_4 &&& 4194303))]) (wc := [(ro, .inr (1, [.ref rb, .int sz])), (rb, .inl (cI, 64, .inl g))]) (wr := [(q, .inr (0, [.ref ro, .ref pa, .int kd, .int ds, .int en, .int pl, .int (nI h), .int gv, .int rp, .int mk, .int la]))]) (ws' := [(q, .inr (0, [.ref ro, .ref pa, .int kd, .int ds, .int en, .int pl, .int (nI h), .int gv, .int rp, .int mk, .int la])), (ro, .inr (1, [.ref rb, .int sz])), (rb, .inl (cI, 64, .inl (cSetHi g h ((1073741824 ||| 0) ||| (x_4 &&& 4194303)))))]) (ci := 1) (C := RX1) ⟨hx, hb, hml, hown, hts⟩ (c_X1_setHighestFirst l D cI cF cJ ro rb 64 h g sz ((1073741824 ||| 0) ||| (x_4 &&& 4194303)) (by omega) (by omega)) (cwV 2 hts gX0_stepSparc_X1_setHighestFirst rfl rfl rfl (by decide +kernel) ⟨Nat.le_of_ble_eq_true rfl, Nat.le_of_ble_eq_true rfl⟩) hK hP hD hS hA [1, 2] [0] [0, 1, 2] rfl rfl rfl rfl (by decide) rfl rfl rfl rfl rfl hl.1 (Nat.le_of_ble_eq_true rfl) ⟨Nat.zero_le _, Nat.zero_le _⟩ dX0_stepSparc_81 (fun H locs hP hD hS => ?_) rfl
      refine lv_aload_n hx hb dX0_stepSparc_84 rfl (lv_at hl 4 rfl) ?_
      refine lv_dup hx hb dX0_stepSparc_85 rfl ?_
      refine va_get (D := D) (ci := 0) (v := .int rp) (C := RX0) (T := TX0) (N := 11) hx hb hts inX0 hown hK hP 0 rfl rfl 8 (by decide) k_48 (fun _ h9 => h9) rfl dX0_stepSparc_86 ?_
      refine lv_iconst (v := 1) hx hb dX0_stepSparc_89 (by decide) ?_
      refine lv_iadd hx hb dX0_stepSparc_90 ?_
      refine kPut (D := D) (ci := 0) (v := .int (rp + 1)) (ty := .int) (C := RX0) (T := TX0) (N := 11) (ws' := [(q, .inr (0, [.ref ro, .ref pa, .int kd, .int ds, .int en, .int pl, .int (nI h), .int gv, .int (rp + 1), .int mk, .int la])), (ro, .inr (1, [.ref rb, .int sz])), (rb, .inl (cI, 64, .inl (cSetHi g h ((1073741824 ||| 0) ||| (x_4 &&& 4194303)))))]) hx hb hts inX0 tyX0 tyX0_ok nmX0 hown hK hP hD hS 0 rfl rfl 8 (by decide) k_48 rfl (by decide +kernel) (rfl) (by first | rfl | decide) (Nat.le_of_ble_eq_true rfl) rfl dX0_stepSparc_91 (fun H locs hP hD hS => ?_)
      refine lv_iconst (v := 4) hx hb dX0_stepSparc_94 (by decide) ?_
      subst e_4
      subst e_2
      subst e_1
      have e9 : cSparc en pl rp h g = (4, rp + 1, cSetHi g h ((1073741824 ||| 0) ||| ((kU (cMd en (4 * (cHi g h)) pl) 2) &&& 4194303))) := (if_pos c_3).trans (if_neg c_5)
      exact hret _ _ _ _ _ dX0_stepSparc_95 (by rw [e9]) (by rw [e9]; exact hP) (by rw [e9]; exact hD) hS
    · refine lv_ldc (v := 1069547520) hx hb hown k_123 dX0_stepSparc_55 ?_
      refine lv_goto (tgt := 61) hx hb dX0_stepSparc_57 (by decide) ?_
      refine lv_istore (lv' := [(4, .int 1069547520), (3, .int x_4), (2, .int x_2), (1, .int x_1), (0, .ref q)]) hx hb dX0_stepSparc_61 hl (by decide) rfl (fun ls hl => ?_)
      refine lv_aload_n hx hb dX0_stepSparc_63 rfl (lv_at hl 4 rfl) ?_
      refine va_get (D := D) (ci := 0) (v := .ref ro) (C := RX0) (T := TX0) (N := 11) hx hb hts inX0 hown hK hP 0 rfl rfl 0 (by decide) k_14 (fun _ h9 => h9) rfl dX0_stepSparc_64 ?_
      refine lv_aload_n hx hb dX0_stepSparc_67 rfl (lv_at hl 4 rfl) ?_
      refine va_get (D := D) (ci := 0) (v := .int (nI h)) (C := RX0) (T := TX0) (N := 11) hx hb hts inX0 hown hK hP 0 rfl rfl 6 (by decide) k_65 (fun _ h9 => h9) rfl dX0_stepSparc_68 ?_
      refine lv_ldc (v := 1073741824) hx hb hown k_124 dX0_stepSparc_71 ?_
      refine lv_iload hx hb dX0_stepSparc_73 (lv_at hl 0 rfl) ?_
      refine lv_ior hx hb dX0_stepSparc_75 ?_
      refine lv_iload_n hx hb dX0_stepSparc_76 rfl (lv_at hl 1 rfl) ?_
      refine lv_ldc (v := 4194303) hx hb hown k_125 dX0_stepSparc_77 ?_
      refine lv_iand hx hb dX0_stepSparc_79 ?_
      refine lv_ior hx hb dX0_stepSparc_80 ?_
      refine kCallV (As := [.int (nI h), .int ((1073741824 ||| 1069547520) ||| (x_4 &&& 4194303))]) (wc := [(ro, .inr (1, [.ref rb, .int sz])), (rb, .inl (cI, 64, .inl g))]) (wr := [(q, .inr (0, [.ref ro, .ref pa, .int kd, .int ds, .int en, .int pl, .int (nI h), .int gv, .int rp, .int mk, .int la]))]) (ws' := [(q, .inr (0, [.ref ro, .ref pa, .int kd, .int ds, .int en, .int pl, .int (nI h), .int gv, .int rp, .int mk, .int la])), (ro, .inr (1, [.ref rb, .int sz])), (rb, .inl (cI, 64, .inl (cSetHi g h ((1073741824 ||| 1069547520) ||| (x_4 &&& 4194303)))))]) (ci := 1) (C := RX1) ⟨hx, hb, hml, hown, hts⟩ (c_X1_setHighestFirst l D cI cF cJ ro rb 64 h g sz ((1073741824 ||| 1069547520) ||| (x_4 &&& 4194303)) (by omega) (by omega)) (cwV 2 hts gX0_stepSparc_X1_setHighestFirst rfl rfl rfl (by decide +kernel) ⟨Nat.le_of_ble_eq_true rfl, Nat.le_of_ble_eq_true rfl⟩) hK hP hD hS hA [1, 2] [0] [0, 1, 2] rfl rfl rfl rfl (by decide) rfl rfl rfl rfl rfl hl.1 (Nat.le_of_ble_eq_true rfl) ⟨Nat.zero_le _, Nat.zero_le _⟩ dX0_stepSparc_81 (fun H locs hP hD hS => ?_) rfl
      refine lv_aload_n hx hb dX0_stepSparc_84 rfl (lv_at hl 4 rfl) ?_
      refine lv_dup hx hb dX0_stepSparc_85 rfl ?_
      refine va_get (D := D) (ci := 0) (v := .int rp) (C := RX0) (T := TX0) (N := 11) hx hb hts inX0 hown hK hP 0 rfl rfl 8 (by decide) k_48 (fun _ h9 => h9) rfl dX0_stepSparc_86 ?_
      refine lv_iconst (v := 1) hx hb dX0_stepSparc_89 (by decide) ?_
      refine lv_iadd hx hb dX0_stepSparc_90 ?_
      refine kPut (D := D) (ci := 0) (v := .int (rp + 1)) (ty := .int) (C := RX0) (T := TX0) (N := 11) (ws' := [(q, .inr (0, [.ref ro, .ref pa, .int kd, .int ds, .int en, .int pl, .int (nI h), .int gv, .int (rp + 1), .int mk, .int la])), (ro, .inr (1, [.ref rb, .int sz])), (rb, .inl (cI, 64, .inl (cSetHi g h ((1073741824 ||| 1069547520) ||| (x_4 &&& 4194303)))))]) hx hb hts inX0 tyX0 tyX0_ok nmX0 hown hK hP hD hS 0 rfl rfl 8 (by decide) k_48 rfl (by decide +kernel) (rfl) (by first | rfl | decide) (Nat.le_of_ble_eq_true rfl) rfl dX0_stepSparc_91 (fun H locs hP hD hS => ?_)
      refine lv_iconst (v := 4) hx hb dX0_stepSparc_94 (by decide) ?_
      subst e_4
      subst e_2
      subst e_1
      have e9 : cSparc en pl rp h g = (4, rp + 1, cSetHi g h ((1073741824 ||| 1069547520) ||| ((kU (cMd en (4 * (cHi g h)) pl) 2) &&& 4194303))) := (if_pos c_3).trans (if_pos c_5)
      exact hret _ _ _ _ _ dX0_stepSparc_95 (by rw [e9]) (by rw [e9]; exact hP) (by rw [e9]; exact hD) hS
  · refine lv_iload_n hx hb dX0_stepSparc_24 rfl (lv_at hl 0 rfl) ?_
    refine lv_sipush (v := 511) hx hb dX0_stepSparc_25 (by decide) ?_
    refine lv_icmp_ne (tgt := 94) hx hb dX0_stepSparc_28 (by decide) (fun c_6 => ?_) (fun c_6 => ?_)
    · refine lv_iconst (v := 4) hx hb dX0_stepSparc_94 (by decide) ?_
      subst e_2
      subst e_1
      have e9 : cSparc en pl rp h g = (4, rp, g) := (if_neg c_3).trans (if_neg c_6)
      exact hret _ _ _ _ _ dX0_stepSparc_95 (by rw [e9]) (by rw [e9]; exact hP) (by rw [e9]; exact hD) hS
    · refine lv_aload_n hx hb dX0_stepSparc_31 rfl (lv_at hl 2 rfl) ?_
      refine lv_iconst (v := 4) hx hb dX0_stepSparc_32 (by decide) ?_
      refine lv_iload_n hx hb dX0_stepSparc_33 rfl (lv_at hl 1 rfl) ?_
      refine lv_imul hx hb dX0_stepSparc_34 ?_
      refine lv_aload_n hx hb dX0_stepSparc_35 rfl (lv_at hl 2 rfl) ?_
      refine va_get (D := D) (ci := 0) (v := .int pl) (C := RX0) (T := TX0) (N := 11) hx hb hts inX0 hown hK hP 0 rfl rfl 5 (by decide) k_42 (fun _ h9 => h9) rfl dX0_stepSparc_36 ?_
      refine kCallI (As := [.int (4 * x_1), .int pl]) (wc := [(q, .inr (0, [.ref ro, .ref pa, .int kd, .int ds, .int en, .int pl, .int (nI h), .int gv, .int rp, .int mk, .int la]))]) (wr := [(ro, .inr (1, [.ref rb, .int sz])), (rb, .inl (cI, 64, .inl g))]) (ws' := [(q, .inr (0, [.ref ro, .ref pa, .int kd, .int ds, .int en, .int pl, .int (nI h), .int gv, .int rp, .int mk, .int la])), (ro, .inr (1, [.ref rb, .int sz])), (rb, .inl (cI, 64, .inl g))]) (ci := 0) (C := RX0) ⟨hx, hb, hml, hown, hts⟩ (c_X0_moved l D cI cF cJ q ro pa kd ds en pl (nI h) gv rp mk la (4 * x_1) pl ) (cwV 2 hts gX0_stepSparc_X0_moved rfl rfl rfl (by decide +kernel) ⟨Nat.le_of_ble_eq_true rfl, Nat.le_of_ble_eq_true rfl⟩) hK hP hD hS hA [0] [1, 2] [2, 0, 1] rfl rfl rfl rfl (by decide) rfl rfl rfl rfl rfl hl.1 (Nat.le_of_ble_eq_true rfl) ⟨Nat.zero_le _, Nat.zero_le _⟩ dX0_stepSparc_39 (fun H locs hP hD hS => ?_) rfl
      refine lv_iconst (v := 2) hx hb dX0_stepSparc_42 (by decide) ?_
      refine lv_iushr (v := (kU (cMd en (4 * x_1) pl) 2)) hx hb dX0_stepSparc_43 rfl ?_
      refine lv_topi (fun x_7 e_7 => ?_)
      refine lv_istore_n (lv' := [(3, .int x_7), (2, .int x_2), (1, .int x_1), (0, .ref q)]) hx hb dX0_stepSparc_44 rfl hl (by decide) rfl (fun ls hl => ?_)
      refine lv_iload_n hx hb dX0_stepSparc_45 rfl (lv_at hl 0 rfl) ?_
      refine lv_bipush (v := 22) hx hb dX0_stepSparc_46 (by decide) ?_
      refine lv_iushr (v := (kU x_7 22)) hx hb dX0_stepSparc_48 rfl ?_
      refine lv_iconst (v := 1) hx hb dX0_stepSparc_49 (by decide) ?_
      refine lv_iand hx hb dX0_stepSparc_50 ?_
      refine lv_iconst (v := 1) hx hb dX0_stepSparc_51 (by decide) ?_
      refine lv_icmp_ne (tgt := 60) hx hb dX0_stepSparc_52 (by decide) (fun c_8 => ?_) (fun c_8 => ?_)
      · refine lv_iconst (v := 0) hx hb dX0_stepSparc_60 (by decide) ?_
        refine lv_istore (lv' := [(4, .int 0), (3, .int x_7), (2, .int x_2), (1, .int x_1), (0, .ref q)]) hx hb dX0_stepSparc_61 hl (by decide) rfl (fun ls hl => ?_)
        refine lv_aload_n hx hb dX0_stepSparc_63 rfl (lv_at hl 4 rfl) ?_
        refine va_get (D := D) (ci := 0) (v := .ref ro) (C := RX0) (T := TX0) (N := 11) hx hb hts inX0 hown hK hP 0 rfl rfl 0 (by decide) k_14 (fun _ h9 => h9) rfl dX0_stepSparc_64 ?_
        refine lv_aload_n hx hb dX0_stepSparc_67 rfl (lv_at hl 4 rfl) ?_
        refine va_get (D := D) (ci := 0) (v := .int (nI h)) (C := RX0) (T := TX0) (N := 11) hx hb hts inX0 hown hK hP 0 rfl rfl 6 (by decide) k_65 (fun _ h9 => h9) rfl dX0_stepSparc_68 ?_
        refine lv_ldc (v := 1073741824) hx hb hown k_124 dX0_stepSparc_71 ?_
        refine lv_iload hx hb dX0_stepSparc_73 (lv_at hl 0 rfl) ?_
        refine lv_ior hx hb dX0_stepSparc_75 ?_
        refine lv_iload_n hx hb dX0_stepSparc_76 rfl (lv_at hl 1 rfl) ?_
        refine lv_ldc (v := 4194303) hx hb hown k_125 dX0_stepSparc_77 ?_
        refine lv_iand hx hb dX0_stepSparc_79 ?_
        refine lv_ior hx hb dX0_stepSparc_80 ?_
        refine kCallV (As := [.int (nI h), .int ((1073741824 ||| 0) ||| (x_7 &&& 4194303))]) (wc := [(ro, .inr (1, [.ref rb, .int sz])), (rb, .inl (cI, 64, .inl g))]) (wr := [(q, .inr (0, [.ref ro, .ref pa, .int kd, .int ds, .int en, .int pl, .int (nI h), .int gv, .int rp, .int mk, .int la]))]) (ws' := [(q, .inr (0, [.ref ro, .ref pa, .int kd, .int ds, .int en, .int pl, .int (nI h), .int gv, .int rp, .int mk, .int la])), (ro, .inr (1, [.ref rb, .int sz])), (rb, .inl (cI, 64, .inl (cSetHi g h ((1073741824 ||| 0) ||| (x_7 &&& 4194303)))))]) (ci := 1) (C := RX1) ⟨hx, hb, hml, hown, hts⟩ (c_X1_setHighestFirst l D cI cF cJ ro rb 64 h g sz ((1073741824 ||| 0) ||| (x_7 &&& 4194303)) (by omega) (by omega)) (cwV 2 hts gX0_stepSparc_X1_setHighestFirst rfl rfl rfl (by decide +kernel) ⟨Nat.le_of_ble_eq_true rfl, Nat.le_of_ble_eq_true rfl⟩) hK hP hD hS hA [1, 2] [0] [0, 1, 2] rfl rfl rfl rfl (by decide) rfl rfl rfl rfl rfl hl.1 (Nat.le_of_ble_eq_true rfl) ⟨Nat.zero_le _, Nat.zero_le _⟩ dX0_stepSparc_81 (fun H locs hP hD hS => ?_) rfl
        refine lv_aload_n hx hb dX0_stepSparc_84 rfl (lv_at hl 4 rfl) ?_
        refine lv_dup hx hb dX0_stepSparc_85 rfl ?_
        refine va_get (D := D) (ci := 0) (v := .int rp) (C := RX0) (T := TX0) (N := 11) hx hb hts inX0 hown hK hP 0 rfl rfl 8 (by decide) k_48 (fun _ h9 => h9) rfl dX0_stepSparc_86 ?_
        refine lv_iconst (v := 1) hx hb dX0_stepSparc_89 (by decide) ?_
        refine lv_iadd hx hb dX0_stepSparc_90 ?_
        refine kPut (D := D) (ci := 0) (v := .int (rp + 1)) (ty := .int) (C := RX0) (T := TX0) (N := 11) (ws' := [(q, .inr (0, [.ref ro, .ref pa, .int kd, .int ds, .int en, .int pl, .int (nI h), .int gv, .int (rp + 1), .int mk, .int la])), (ro, .inr (1, [.ref rb, .int sz])), (rb, .inl (cI, 64, .inl (cSetHi g h ((1073741824 ||| 0) ||| (x_7 &&& 4194303)))))]) hx hb hts inX0 tyX0 tyX0_ok nmX0 hown hK hP hD hS 0 rfl rfl 8 (by decide) k_48 rfl (by decide +kernel) (rfl) (by first | rfl | decide) (Nat.le_of_ble_eq_true rfl) rfl dX0_stepSparc_91 (fun H locs hP hD hS => ?_)
        refine lv_iconst (v := 4) hx hb dX0_stepSparc_94 (by decide) ?_
        subst e_7
        subst e_2
        subst e_1
        have e9 : cSparc en pl rp h g = (4, rp + 1, cSetHi g h ((1073741824 ||| 0) ||| ((kU (cMd en (4 * (cHi g h)) pl) 2) &&& 4194303))) := (if_neg c_3).trans ((if_pos c_6).trans (if_neg c_8))
        exact hret _ _ _ _ _ dX0_stepSparc_95 (by rw [e9]) (by rw [e9]; exact hP) (by rw [e9]; exact hD) hS
      · refine lv_ldc (v := 1069547520) hx hb hown k_123 dX0_stepSparc_55 ?_
        refine lv_goto (tgt := 61) hx hb dX0_stepSparc_57 (by decide) ?_
        refine lv_istore (lv' := [(4, .int 1069547520), (3, .int x_7), (2, .int x_2), (1, .int x_1), (0, .ref q)]) hx hb dX0_stepSparc_61 hl (by decide) rfl (fun ls hl => ?_)
        refine lv_aload_n hx hb dX0_stepSparc_63 rfl (lv_at hl 4 rfl) ?_
        refine va_get (D := D) (ci := 0) (v := .ref ro) (C := RX0) (T := TX0) (N := 11) hx hb hts inX0 hown hK hP 0 rfl rfl 0 (by decide) k_14 (fun _ h9 => h9) rfl dX0_stepSparc_64 ?_
        refine lv_aload_n hx hb dX0_stepSparc_67 rfl (lv_at hl 4 rfl) ?_
        refine va_get (D := D) (ci := 0) (v := .int (nI h)) (C := RX0) (T := TX0) (N := 11) hx hb hts inX0 hown hK hP 0 rfl rfl 6 (by decide) k_65 (fun _ h9 => h9) rfl dX0_stepSparc_68 ?_
        refine lv_ldc (v := 1073741824) hx hb hown k_124 dX0_stepSparc_71 ?_
        refine lv_iload hx hb dX0_stepSparc_73 (lv_at hl 0 rfl) ?_
        refine lv_ior hx hb dX0_stepSparc_75 ?_
        refine lv_iload_n hx hb dX0_stepSparc_76 rfl (lv_at hl 1 rfl) ?_
        refine lv_ldc (v := 4194303) hx hb hown k_125 dX0_stepSparc_77 ?_
        refine lv_iand hx hb dX0_stepSparc_79 ?_
        refine lv_ior hx hb dX0_stepSparc_80 ?_
        refine kCallV (As := [.int (nI h), .int ((1073741824 ||| 1069547520) ||| (x_7 &&& 4194303))]) (wc := [(ro, .inr (1, [.ref rb, .int sz])), (rb, .inl (cI, 64, .inl g))]) (wr := [(q, .inr (0, [.ref ro, .ref pa, .int kd, .int ds, .int en, .int pl, .int (nI h), .int gv, .int rp, .int mk, .int la]))]) (ws' := [(q, .inr (0, [.ref ro, .ref pa, .int kd, .int ds, .int en, .int pl, .int (nI h), .int gv, .int rp, .int mk, .int la])), (ro, .inr (1, [.ref rb, .int sz])), (rb, .inl (cI, 64, .inl (cSetHi g h ((1073741824 ||| 1069547520) ||| (x_7 &&& 4194303)))))]) (ci := 1) (C := RX1) ⟨hx, hb, hml, hown, hts⟩ (c_X1_setHighestFirst l D cI cF cJ ro rb 64 h g sz ((1073741824 ||| 1069547520) ||| (x_7 &&& 4194303)) (by omega) (by omega)) (cwV 2 hts gX0_stepSparc_X1_setHighestFirst rfl rfl rfl (by decide +kernel) ⟨Nat.le_of_ble_eq_true rfl, Nat.le_of_ble_eq_true rfl⟩) hK hP hD hS hA [1, 2] [0] [0, 1, 2] rfl rfl rfl rfl (by decide) rfl rfl rfl rfl rfl hl.1 (Nat.le_of_ble_eq_true rfl) ⟨Nat.zero_le _, Nat.zero_le _⟩ dX0_stepSparc_81 (fun H locs hP hD hS => ?_) rfl
        refine lv_aload_n hx hb dX0_stepSparc_84 rfl (lv_at hl 4 rfl) ?_
        refine lv_dup hx hb dX0_stepSparc_85 rfl ?_
        refine va_get (D := D) (ci := 0) (v := .int rp) (C := RX0) (T := TX0) (N := 11) hx hb hts inX0 hown hK hP 0 rfl rfl 8 (by decide) k_48 (fun _ h9 => h9) rfl dX0_stepSparc_86 ?_
        refine lv_iconst (v := 1) hx hb dX0_stepSparc_89 (by decide) ?_
        refine lv_iadd hx hb dX0_stepSparc_90 ?_
        refine kPut (D := D) (ci := 0) (v := .int (rp + 1)) (ty := .int) (C := RX0) (T := TX0) (N := 11) (ws' := [(q, .inr (0, [.ref ro, .ref pa, .int kd, .int ds, .int en, .int pl, .int (nI h), .int gv, .int (rp + 1), .int mk, .int la])), (ro, .inr (1, [.ref rb, .int sz])), (rb, .inl (cI, 64, .inl (cSetHi g h ((1073741824 ||| 1069547520) ||| (x_7 &&& 4194303)))))]) hx hb hts inX0 tyX0 tyX0_ok nmX0 hown hK hP hD hS 0 rfl rfl 8 (by decide) k_48 rfl (by decide +kernel) (rfl) (by first | rfl | decide) (Nat.le_of_ble_eq_true rfl) rfl dX0_stepSparc_91 (fun H locs hP hD hS => ?_)
        refine lv_iconst (v := 4) hx hb dX0_stepSparc_94 (by decide) ?_
        subst e_7
        subst e_2
        subst e_1
        have e9 : cSparc en pl rp h g = (4, rp + 1, cSetHi g h ((1073741824 ||| 1069547520) ||| ((kU (cMd en (4 * (cHi g h)) pl) 2) &&& 4194303))) := (if_neg c_3).trans ((if_pos c_6).trans (if_pos c_8))
        exact hret _ _ _ _ _ dX0_stepSparc_95 (by rw [e9]) (by rw [e9]; exact hP) (by rw [e9]; exact hD) hS

def cRj (en : Int32) (pl : Int32) (rp : Int32) (w : Int32) (h : Nat) (g : Nat → Int32) : Int32 × (Nat → Int32) := (rp + 1, cSetLo g h ((w &&& 4095) ||| ((((((kU (cMd en (((((kU w 31) <<< ((20 : Int32) &&& 31)) ||| (w &&& 1044480)) ||| (((kU w 20) &&& 1) <<< ((11 : Int32) &&& 31))) ||| (((kU w 21) &&& 1023) <<< ((1 : Int32) &&& 31))) pl) 20) &&& 1) <<< ((31 : Int32) &&& 31)) ||| (((kU (cMd en (((((kU w 31) <<< ((20 : Int32) &&& 31)) ||| (w &&& 1044480)) ||| (((kU w 20) &&& 1) <<< ((11 : Int32) &&& 31))) ||| (((kU w 21) &&& 1023) <<< ((1 : Int32) &&& 31))) pl) 1) &&& 1023) <<< ((21 : Int32) &&& 31))) ||| (((kU (cMd en (((((kU w 31) <<< ((20 : Int32) &&& 31)) ||| (w &&& 1044480)) ||| (((kU w 20) &&& 1) <<< ((11 : Int32) &&& 31))) ||| (((kU w 21) &&& 1023) <<< ((1 : Int32) &&& 31))) pl) 11) &&& 1) <<< ((20 : Int32) &&& 31))) ||| ((cMd en (((((kU w 31) <<< ((20 : Int32) &&& 31)) ||| (w &&& 1044480)) ||| (((kU w 20) &&& 1) <<< ((11 : Int32) &&& 31))) ||| (((kU w 21) &&& 1023) <<< ((1 : Int32) &&& 31))) pl) &&& 1044480))))

set_option maxHeartbeats 4000000 in
set_option maxRecDepth 100000 in
/-- Filter.replaceRiscJump(w) -/
theorem c_X0_replaceRiscJump (l : Launch) (D : va_G) (cI cF cJ : ClassId) (q ro pa rb h : Nat) (kd ds en pl gv rp mk la sz : Int32) (g : Nat → Int32) (w : Int32) (hk : h + 3 < 64) : kV l yX0_replaceRiscJump wsX0_replaceRiscJump ({ frames := 1, cells := 0, slots := 0, locals := 22 }) D (kTy cI cF cJ) [.ref q, .int w] [(q, .inr (0, [.ref ro, .ref pa, .int kd, .int ds, .int en, .int pl, .int (nI h), .int gv, .int rp, .int mk, .int la])), (ro, .inr (1, [.ref rb, .int sz])), (rb, .inl (cI, 64, .inl g))] [(q, .inr (0, [.ref ro, .ref pa, .int kd, .int ds, .int en, .int pl, .int (nI h), .int gv, .int ((cRj en pl rp w h g).1), .int mk, .int la])), (ro, .inr (1, [.ref rb, .int sz])), (rb, .inl (cI, 64, .inl ((cRj en pl rp w h g).2)))] := by
  refine kV_of (cc := cX0_replaceRiscJump) (nL := 5) (own := RX0) (lv := [(0, .ref q), (1, .int w)]) (by decide) rfl rfl (Nat.le_of_ble_eq_true rfl) rfl ?_
  intro p e s m args below meth c A ls Q C hA hK hP hD hS hl hret
  obtain ⟨hx, hb, hr, hml, hown, hts, hlocks⟩ := C
  have k_133 := hts (.constant RX0 133 (1044480)) (by decide +kernel)
  have k_14 := hts (.fieldLink RX0 14 "BranchFilters$Filter" "held" "LBranchFilters$Row;") (by decide +kernel)
  have k_42 := hts (.fieldLink RX0 42 "BranchFilters$Filter" "place" "I") (by decide +kernel)
  have k_48 := hts (.fieldLink RX0 48 "BranchFilters$Filter" "replaced" "I") (by decide +kernel)
  have k_65 := hts (.fieldLink RX0 65 "BranchFilters$Filter" "here" "I") (by decide +kernel)
  have inX0 : ∀ w ∈ wsX00, w ∈ wsX0_replaceRiscJump := by decide +kernel
  refine lv_iload_n hx hb dX0_replaceRiscJump_0 rfl (lv_at hl 1 rfl) ?_
  refine lv_bipush (v := 31) hx hb dX0_replaceRiscJump_1 (by decide) ?_
  refine lv_iushr (v := (kU w 31)) hx hb dX0_replaceRiscJump_3 rfl ?_
  refine lv_bipush (v := 20) hx hb dX0_replaceRiscJump_4 (by decide) ?_
  refine lv_ishl hx hb dX0_replaceRiscJump_6 ?_
  refine lv_iload_n hx hb dX0_replaceRiscJump_7 rfl (lv_at hl 1 rfl) ?_
  refine lv_ldc (v := 1044480) hx hb hown k_133 dX0_replaceRiscJump_8 ?_
  refine lv_iand hx hb dX0_replaceRiscJump_10 ?_
  refine lv_ior hx hb dX0_replaceRiscJump_11 ?_
  refine lv_iload_n hx hb dX0_replaceRiscJump_12 rfl (lv_at hl 1 rfl) ?_
  refine lv_bipush (v := 20) hx hb dX0_replaceRiscJump_13 (by decide) ?_
  refine lv_iushr (v := (kU w 20)) hx hb dX0_replaceRiscJump_15 rfl ?_
  refine lv_iconst (v := 1) hx hb dX0_replaceRiscJump_16 (by decide) ?_
  refine lv_iand hx hb dX0_replaceRiscJump_17 ?_
  refine lv_bipush (v := 11) hx hb dX0_replaceRiscJump_18 (by decide) ?_
  refine lv_ishl hx hb dX0_replaceRiscJump_20 ?_
  refine lv_ior hx hb dX0_replaceRiscJump_21 ?_
  refine lv_iload_n hx hb dX0_replaceRiscJump_22 rfl (lv_at hl 1 rfl) ?_
  refine lv_bipush (v := 21) hx hb dX0_replaceRiscJump_23 (by decide) ?_
  refine lv_iushr (v := (kU w 21)) hx hb dX0_replaceRiscJump_25 rfl ?_
  refine lv_sipush (v := 1023) hx hb dX0_replaceRiscJump_26 (by decide) ?_
  refine lv_iand hx hb dX0_replaceRiscJump_29 ?_
  refine lv_iconst (v := 1) hx hb dX0_replaceRiscJump_30 (by decide) ?_
  refine lv_ishl hx hb dX0_replaceRiscJump_31 ?_
  refine lv_ior hx hb dX0_replaceRiscJump_32 ?_
  refine lv_topi (fun x_1 e_1 => ?_)
  refine lv_istore_n (lv' := [(2, .int x_1), (0, .ref q), (1, .int w)]) hx hb dX0_replaceRiscJump_33 rfl hl (by decide) rfl (fun ls hl => ?_)
  refine lv_aload_n hx hb dX0_replaceRiscJump_34 rfl (lv_at hl 1 rfl) ?_
  refine lv_iload_n hx hb dX0_replaceRiscJump_35 rfl (lv_at hl 0 rfl) ?_
  refine lv_aload_n hx hb dX0_replaceRiscJump_36 rfl (lv_at hl 1 rfl) ?_
  refine va_get (D := D) (ci := 0) (v := .int pl) (C := RX0) (T := TX0) (N := 11) hx hb hts inX0 hown hK hP 0 rfl rfl 5 (by decide) k_42 (fun _ h9 => h9) rfl dX0_replaceRiscJump_37 ?_
  refine kCallI (As := [.int x_1, .int pl]) (wc := [(q, .inr (0, [.ref ro, .ref pa, .int kd, .int ds, .int en, .int pl, .int (nI h), .int gv, .int rp, .int mk, .int la]))]) (wr := [(ro, .inr (1, [.ref rb, .int sz])), (rb, .inl (cI, 64, .inl g))]) (ws' := [(q, .inr (0, [.ref ro, .ref pa, .int kd, .int ds, .int en, .int pl, .int (nI h), .int gv, .int rp, .int mk, .int la])), (ro, .inr (1, [.ref rb, .int sz])), (rb, .inl (cI, 64, .inl g))]) (ci := 0) (C := RX0) ⟨hx, hb, hml, hown, hts⟩ (c_X0_moved l D cI cF cJ q ro pa kd ds en pl (nI h) gv rp mk la x_1 pl ) (cwV 2 hts gX0_replaceRiscJump_X0_moved rfl rfl rfl (by decide +kernel) ⟨Nat.le_of_ble_eq_true rfl, Nat.le_of_ble_eq_true rfl⟩) hK hP hD hS hA [0] [1, 2] [2, 0, 1] rfl rfl rfl rfl (by decide) rfl rfl rfl rfl rfl hl.1 (Nat.le_of_ble_eq_true rfl) ⟨Nat.zero_le _, Nat.zero_le _⟩ dX0_replaceRiscJump_40 (fun H locs hP hD hS => ?_) rfl
  refine lv_topi (fun x_2 e_2 => ?_)
  refine lv_istore_n (lv' := [(3, .int x_2), (2, .int x_1), (0, .ref q), (1, .int w)]) hx hb dX0_replaceRiscJump_43 rfl hl (by decide) rfl (fun ls hl => ?_)
  refine lv_iload_n hx hb dX0_replaceRiscJump_44 rfl (lv_at hl 0 rfl) ?_
  refine lv_bipush (v := 20) hx hb dX0_replaceRiscJump_45 (by decide) ?_
  refine lv_iushr (v := (kU x_2 20)) hx hb dX0_replaceRiscJump_47 rfl ?_
  refine lv_iconst (v := 1) hx hb dX0_replaceRiscJump_48 (by decide) ?_
  refine lv_iand hx hb dX0_replaceRiscJump_49 ?_
  refine lv_bipush (v := 31) hx hb dX0_replaceRiscJump_50 (by decide) ?_
  refine lv_ishl hx hb dX0_replaceRiscJump_52 ?_
  refine lv_iload_n hx hb dX0_replaceRiscJump_53 rfl (lv_at hl 0 rfl) ?_
  refine lv_iconst (v := 1) hx hb dX0_replaceRiscJump_54 (by decide) ?_
  refine lv_iushr (v := (kU x_2 1)) hx hb dX0_replaceRiscJump_55 rfl ?_
  refine lv_sipush (v := 1023) hx hb dX0_replaceRiscJump_56 (by decide) ?_
  refine lv_iand hx hb dX0_replaceRiscJump_59 ?_
  refine lv_bipush (v := 21) hx hb dX0_replaceRiscJump_60 (by decide) ?_
  refine lv_ishl hx hb dX0_replaceRiscJump_62 ?_
  refine lv_ior hx hb dX0_replaceRiscJump_63 ?_
  refine lv_iload_n hx hb dX0_replaceRiscJump_64 rfl (lv_at hl 0 rfl) ?_
  refine lv_bipush (v := 11) hx hb dX0_replaceRiscJump_65 (by decide) ?_
  refine lv_iushr (v := (kU x_2 11)) hx hb dX0_replaceRiscJump_67 rfl ?_
  refine lv_iconst (v := 1) hx hb dX0_replaceRiscJump_68 (by decide) ?_
  refine lv_iand hx hb dX0_replaceRiscJump_69 ?_
  refine lv_bipush (v := 20) hx hb dX0_replaceRiscJump_70 (by decide) ?_
  refine lv_ishl hx hb dX0_replaceRiscJump_72 ?_
  refine lv_ior hx hb dX0_replaceRiscJump_73 ?_
  refine lv_iload_n hx hb dX0_replaceRiscJump_74 rfl (lv_at hl 0 rfl) ?_
  refine lv_ldc (v := 1044480) hx hb hown k_133 dX0_replaceRiscJump_75 ?_
  refine lv_iand hx hb dX0_replaceRiscJump_77 ?_
  refine lv_ior hx hb dX0_replaceRiscJump_78 ?_
  refine lv_topi (fun x_3 e_3 => ?_)
  refine lv_istore (lv' := [(4, .int x_3), (3, .int x_2), (2, .int x_1), (0, .ref q), (1, .int w)]) hx hb dX0_replaceRiscJump_79 hl (by decide) rfl (fun ls hl => ?_)
  refine lv_aload_n hx hb dX0_replaceRiscJump_81 rfl (lv_at hl 3 rfl) ?_
  refine va_get (D := D) (ci := 0) (v := .ref ro) (C := RX0) (T := TX0) (N := 11) hx hb hts inX0 hown hK hP 0 rfl rfl 0 (by decide) k_14 (fun _ h9 => h9) rfl dX0_replaceRiscJump_82 ?_
  refine lv_aload_n hx hb dX0_replaceRiscJump_85 rfl (lv_at hl 3 rfl) ?_
  refine va_get (D := D) (ci := 0) (v := .int (nI h)) (C := RX0) (T := TX0) (N := 11) hx hb hts inX0 hown hK hP 0 rfl rfl 6 (by decide) k_65 (fun _ h9 => h9) rfl dX0_replaceRiscJump_86 ?_
  refine lv_iload_n hx hb dX0_replaceRiscJump_89 rfl (lv_at hl 4 rfl) ?_
  refine lv_sipush (v := 4095) hx hb dX0_replaceRiscJump_90 (by decide) ?_
  refine lv_iand hx hb dX0_replaceRiscJump_93 ?_
  refine lv_iload hx hb dX0_replaceRiscJump_94 (lv_at hl 0 rfl) ?_
  refine lv_ior hx hb dX0_replaceRiscJump_96 ?_
  refine kCallV (As := [.int (nI h), .int ((w &&& 4095) ||| x_3)]) (wc := [(ro, .inr (1, [.ref rb, .int sz])), (rb, .inl (cI, 64, .inl g))]) (wr := [(q, .inr (0, [.ref ro, .ref pa, .int kd, .int ds, .int en, .int pl, .int (nI h), .int gv, .int rp, .int mk, .int la]))]) (ws' := [(q, .inr (0, [.ref ro, .ref pa, .int kd, .int ds, .int en, .int pl, .int (nI h), .int gv, .int rp, .int mk, .int la])), (ro, .inr (1, [.ref rb, .int sz])), (rb, .inl (cI, 64, .inl (cSetLo g h ((w &&& 4095) ||| x_3))))]) (ci := 1) (C := RX1) ⟨hx, hb, hml, hown, hts⟩ (c_X1_setLowestFirst l D cI cF cJ ro rb 64 h g sz ((w &&& 4095) ||| x_3) (by omega) (by omega)) (cwV 2 hts gX0_replaceRiscJump_X1_setLowestFirst rfl rfl rfl (by decide +kernel) ⟨Nat.le_of_ble_eq_true rfl, Nat.le_of_ble_eq_true rfl⟩) hK hP hD hS hA [1, 2] [0] [0, 1, 2] rfl rfl rfl rfl (by decide) rfl rfl rfl rfl rfl hl.1 (Nat.le_of_ble_eq_true rfl) ⟨Nat.zero_le _, Nat.zero_le _⟩ dX0_replaceRiscJump_97 (fun H locs hP hD hS => ?_) rfl
  refine lv_aload_n hx hb dX0_replaceRiscJump_100 rfl (lv_at hl 3 rfl) ?_
  refine lv_dup hx hb dX0_replaceRiscJump_101 rfl ?_
  refine va_get (D := D) (ci := 0) (v := .int rp) (C := RX0) (T := TX0) (N := 11) hx hb hts inX0 hown hK hP 0 rfl rfl 8 (by decide) k_48 (fun _ h9 => h9) rfl dX0_replaceRiscJump_102 ?_
  refine lv_iconst (v := 1) hx hb dX0_replaceRiscJump_105 (by decide) ?_
  refine lv_iadd hx hb dX0_replaceRiscJump_106 ?_
  refine kPut (D := D) (ci := 0) (v := .int (rp + 1)) (ty := .int) (C := RX0) (T := TX0) (N := 11) (ws' := [(q, .inr (0, [.ref ro, .ref pa, .int kd, .int ds, .int en, .int pl, .int (nI h), .int gv, .int (rp + 1), .int mk, .int la])), (ro, .inr (1, [.ref rb, .int sz])), (rb, .inl (cI, 64, .inl (cSetLo g h ((w &&& 4095) ||| x_3))))]) hx hb hts inX0 tyX0 tyX0_ok nmX0 hown hK hP hD hS 0 rfl rfl 8 (by decide) k_48 rfl (by decide +kernel) (rfl) (by first | rfl | decide) (Nat.le_of_ble_eq_true rfl) rfl dX0_replaceRiscJump_107 (fun H locs hP hD hS => ?_)
  subst e_3
  subst e_2
  subst e_1
  have e9 : cRj en pl rp w h g = (rp + 1, cSetLo g h ((w &&& 4095) ||| ((((((kU (cMd en (((((kU w 31) <<< ((20 : Int32) &&& 31)) ||| (w &&& 1044480)) ||| (((kU w 20) &&& 1) <<< ((11 : Int32) &&& 31))) ||| (((kU w 21) &&& 1023) <<< ((1 : Int32) &&& 31))) pl) 20) &&& 1) <<< ((31 : Int32) &&& 31)) ||| (((kU (cMd en (((((kU w 31) <<< ((20 : Int32) &&& 31)) ||| (w &&& 1044480)) ||| (((kU w 20) &&& 1) <<< ((11 : Int32) &&& 31))) ||| (((kU w 21) &&& 1023) <<< ((1 : Int32) &&& 31))) pl) 1) &&& 1023) <<< ((21 : Int32) &&& 31))) ||| (((kU (cMd en (((((kU w 31) <<< ((20 : Int32) &&& 31)) ||| (w &&& 1044480)) ||| (((kU w 20) &&& 1) <<< ((11 : Int32) &&& 31))) ||| (((kU w 21) &&& 1023) <<< ((1 : Int32) &&& 31))) pl) 11) &&& 1) <<< ((20 : Int32) &&& 31))) ||| ((cMd en (((((kU w 31) <<< ((20 : Int32) &&& 31)) ||| (w &&& 1044480)) ||| (((kU w 20) &&& 1) <<< ((11 : Int32) &&& 31))) ||| (((kU w 21) &&& 1023) <<< ((1 : Int32) &&& 31))) pl) &&& 1044480)))) := rfl
  exact hret _ _ _ _ dX0_replaceRiscJump_110 (by rw [e9]; exact hP) (by rw [e9]; exact hD) hS

def cRp (en : Int32) (pl : Int32) (rp : Int32) (w : Int32) (v : Int32) (r : Int32) (h : Nat) (g : Nat → Int32) : Int32 × (Nat → Int32) := (if (kU v 15) &&& 31 = r then (if (v &&& 127) = 103 then (rp + 1, cSetLo (cSetLo g h ((w &&& 4095) ||| (((cMd en ((w &&& (-4096)) + (v >>> ((20 : Int32) &&& 31))) pl) + 2048) &&& (-4096)))) (h + 4) ((v &&& 1048575) ||| ((cMd en ((w &&& (-4096)) + (v >>> ((20 : Int32) &&& 31))) pl) <<< ((20 : Int32) &&& 31)))) else (if (v &&& 127) = 3 then (rp + 1, cSetLo (cSetLo g h ((w &&& 4095) ||| (((cMd en ((w &&& (-4096)) + (v >>> ((20 : Int32) &&& 31))) pl) + 2048) &&& (-4096)))) (h + 4) ((v &&& 1048575) ||| ((cMd en ((w &&& (-4096)) + (v >>> ((20 : Int32) &&& 31))) pl) <<< ((20 : Int32) &&& 31)))) else (rp, g))) else (rp, g))

set_option maxHeartbeats 4000000 in
set_option maxRecDepth 100000 in
/-- Filter.replaceRiscPair(w, v, r) -/
theorem c_X0_replaceRiscPair (l : Launch) (D : va_G) (cI cF cJ : ClassId) (q ro pa rb h : Nat) (kd ds en pl gv rp mk la sz : Int32) (g : Nat → Int32) (w v r : Int32) (hk : h + 7 < 64) : kV l yX0_replaceRiscPair wsX0_replaceRiscPair ({ frames := 1, cells := 0, slots := 0, locals := 22 }) D (kTy cI cF cJ) [.ref q, .int w, .int v, .int r] [(q, .inr (0, [.ref ro, .ref pa, .int kd, .int ds, .int en, .int pl, .int (nI h), .int gv, .int rp, .int mk, .int la])), (ro, .inr (1, [.ref rb, .int sz])), (rb, .inl (cI, 64, .inl g))] [(q, .inr (0, [.ref ro, .ref pa, .int kd, .int ds, .int en, .int pl, .int (nI h), .int gv, .int ((cRp en pl rp w v r h g).1), .int mk, .int la])), (ro, .inr (1, [.ref rb, .int sz])), (rb, .inl (cI, 64, .inl ((cRp en pl rp w v r h g).2)))] := by
  refine kV_of (cc := cX0_replaceRiscPair) (nL := 7) (own := RX0) (lv := [(0, .ref q), (1, .int w), (2, .int v), (3, .int r)]) (by decide) rfl rfl (Nat.le_of_ble_eq_true rfl) rfl ?_
  intro p e s m args below meth c A ls Q C hA hK hP hD hS hl hret
  obtain ⟨hx, hb, hr, hml, hown, hts, hlocks⟩ := C
  have k_134 := hts (.constant RX0 134 (1048575)) (by decide +kernel)
  have k_14 := hts (.fieldLink RX0 14 "BranchFilters$Filter" "held" "LBranchFilters$Row;") (by decide +kernel)
  have k_42 := hts (.fieldLink RX0 42 "BranchFilters$Filter" "place" "I") (by decide +kernel)
  have k_48 := hts (.fieldLink RX0 48 "BranchFilters$Filter" "replaced" "I") (by decide +kernel)
  have k_65 := hts (.fieldLink RX0 65 "BranchFilters$Filter" "here" "I") (by decide +kernel)
  have inX0 : ∀ w ∈ wsX00, w ∈ wsX0_replaceRiscPair := by decide +kernel
  refine lv_iload_n hx hb dX0_replaceRiscPair_0 rfl (lv_at hl 2 rfl) ?_
  refine lv_bipush (v := 127) hx hb dX0_replaceRiscPair_1 (by decide) ?_
  refine lv_iand hx hb dX0_replaceRiscPair_3 ?_
  refine lv_topi (fun x_1 e_1 => ?_)
  refine lv_istore (lv' := [(4, .int x_1), (0, .ref q), (1, .int w), (2, .int v), (3, .int r)]) hx hb dX0_replaceRiscPair_4 hl (by decide) rfl (fun ls hl => ?_)
  refine lv_iload_n hx hb dX0_replaceRiscPair_6 rfl (lv_at hl 3 rfl) ?_
  refine lv_bipush (v := 15) hx hb dX0_replaceRiscPair_7 (by decide) ?_
  refine lv_iushr (v := (kU v 15)) hx hb dX0_replaceRiscPair_9 rfl ?_
  refine lv_bipush (v := 31) hx hb dX0_replaceRiscPair_10 (by decide) ?_
  refine lv_iand hx hb dX0_replaceRiscPair_12 ?_
  refine lv_iload_n hx hb dX0_replaceRiscPair_13 rfl (lv_at hl 4 rfl) ?_
  refine lv_icmp_ne (tgt := 30) hx hb dX0_replaceRiscPair_14 (by decide) (fun c_2 => ?_) (fun c_2 => ?_)
  · subst e_1
    have e9 : cRp en pl rp w v r h g = (rp, g) := if_neg c_2
    exact hret _ _ _ _ dX0_replaceRiscPair_30 (by rw [e9]; exact hP) (by rw [e9]; exact hD) hS
  · refine lv_iload hx hb dX0_replaceRiscPair_17 (lv_at hl 0 rfl) ?_
    refine lv_bipush (v := 103) hx hb dX0_replaceRiscPair_19 (by decide) ?_
    refine lv_icmp_eq (tgt := 31) hx hb dX0_replaceRiscPair_21 (by decide) (fun c_3 => ?_) (fun c_3 => ?_)
    · refine lv_aload_n hx hb dX0_replaceRiscPair_31 rfl (lv_at hl 1 rfl) ?_
      refine lv_iload_n hx hb dX0_replaceRiscPair_32 rfl (lv_at hl 2 rfl) ?_
      refine lv_sipush (v := (-4096)) hx hb dX0_replaceRiscPair_33 (by decide) ?_
      refine lv_iand hx hb dX0_replaceRiscPair_36 ?_
      refine lv_iload_n hx hb dX0_replaceRiscPair_37 rfl (lv_at hl 3 rfl) ?_
      refine lv_bipush (v := 20) hx hb dX0_replaceRiscPair_38 (by decide) ?_
      refine lv_ishr hx hb dX0_replaceRiscPair_40 ?_
      refine lv_iadd hx hb dX0_replaceRiscPair_41 ?_
      refine lv_aload_n hx hb dX0_replaceRiscPair_42 rfl (lv_at hl 1 rfl) ?_
      refine va_get (D := D) (ci := 0) (v := .int pl) (C := RX0) (T := TX0) (N := 11) hx hb hts inX0 hown hK hP 0 rfl rfl 5 (by decide) k_42 (fun _ h9 => h9) rfl dX0_replaceRiscPair_43 ?_
      refine kCallI (As := [.int ((w &&& (-4096)) + (v >>> ((20 : Int32) &&& 31))), .int pl]) (wc := [(q, .inr (0, [.ref ro, .ref pa, .int kd, .int ds, .int en, .int pl, .int (nI h), .int gv, .int rp, .int mk, .int la]))]) (wr := [(ro, .inr (1, [.ref rb, .int sz])), (rb, .inl (cI, 64, .inl g))]) (ws' := [(q, .inr (0, [.ref ro, .ref pa, .int kd, .int ds, .int en, .int pl, .int (nI h), .int gv, .int rp, .int mk, .int la])), (ro, .inr (1, [.ref rb, .int sz])), (rb, .inl (cI, 64, .inl g))]) (ci := 0) (C := RX0) ⟨hx, hb, hml, hown, hts⟩ (c_X0_moved l D cI cF cJ q ro pa kd ds en pl (nI h) gv rp mk la ((w &&& (-4096)) + (v >>> ((20 : Int32) &&& 31))) pl ) (cwV 2 hts gX0_replaceRiscPair_X0_moved rfl rfl rfl (by decide +kernel) ⟨Nat.le_of_ble_eq_true rfl, Nat.le_of_ble_eq_true rfl⟩) hK hP hD hS hA [0] [1, 2] [2, 0, 1] rfl rfl rfl rfl (by decide) rfl rfl rfl rfl rfl hl.1 (Nat.le_of_ble_eq_true rfl) ⟨Nat.zero_le _, Nat.zero_le _⟩ dX0_replaceRiscPair_46 (fun H locs hP hD hS => ?_) rfl
      refine lv_topi (fun x_4 e_4 => ?_)
      refine lv_istore (lv' := [(5, .int x_4), (4, .int x_1), (0, .ref q), (1, .int w), (2, .int v), (3, .int r)]) hx hb dX0_replaceRiscPair_49 hl (by decide) rfl (fun ls hl => ?_)
      refine lv_iload hx hb dX0_replaceRiscPair_51 (lv_at hl 0 rfl) ?_
      refine lv_sipush (v := 2048) hx hb dX0_replaceRiscPair_53 (by decide) ?_
      refine lv_iadd hx hb dX0_replaceRiscPair_56 ?_
      refine lv_sipush (v := (-4096)) hx hb dX0_replaceRiscPair_57 (by decide) ?_
      refine lv_iand hx hb dX0_replaceRiscPair_60 ?_
      refine lv_topi (fun x_5 e_5 => ?_)
      refine lv_istore (lv' := [(6, .int x_5), (5, .int x_4), (4, .int x_1), (0, .ref q), (1, .int w), (2, .int v), (3, .int r)]) hx hb dX0_replaceRiscPair_61 hl (by decide) rfl (fun ls hl => ?_)
      refine lv_aload_n hx hb dX0_replaceRiscPair_63 rfl (lv_at hl 3 rfl) ?_
      refine va_get (D := D) (ci := 0) (v := .ref ro) (C := RX0) (T := TX0) (N := 11) hx hb hts inX0 hown hK hP 0 rfl rfl 0 (by decide) k_14 (fun _ h9 => h9) rfl dX0_replaceRiscPair_64 ?_
      refine lv_aload_n hx hb dX0_replaceRiscPair_67 rfl (lv_at hl 3 rfl) ?_
      refine va_get (D := D) (ci := 0) (v := .int (nI h)) (C := RX0) (T := TX0) (N := 11) hx hb hts inX0 hown hK hP 0 rfl rfl 6 (by decide) k_65 (fun _ h9 => h9) rfl dX0_replaceRiscPair_68 ?_
      refine lv_iload_n hx hb dX0_replaceRiscPair_71 rfl (lv_at hl 4 rfl) ?_
      refine lv_sipush (v := 4095) hx hb dX0_replaceRiscPair_72 (by decide) ?_
      refine lv_iand hx hb dX0_replaceRiscPair_75 ?_
      refine lv_iload hx hb dX0_replaceRiscPair_76 (lv_at hl 0 rfl) ?_
      refine lv_ior hx hb dX0_replaceRiscPair_78 ?_
      refine kCallV (As := [.int (nI h), .int ((w &&& 4095) ||| x_5)]) (wc := [(ro, .inr (1, [.ref rb, .int sz])), (rb, .inl (cI, 64, .inl g))]) (wr := [(q, .inr (0, [.ref ro, .ref pa, .int kd, .int ds, .int en, .int pl, .int (nI h), .int gv, .int rp, .int mk, .int la]))]) (ws' := [(q, .inr (0, [.ref ro, .ref pa, .int kd, .int ds, .int en, .int pl, .int (nI h), .int gv, .int rp, .int mk, .int la])), (ro, .inr (1, [.ref rb, .int sz])), (rb, .inl (cI, 64, .inl (cSetLo g h ((w &&& 4095) ||| x_5))))]) (ci := 1) (C := RX1) ⟨hx, hb, hml, hown, hts⟩ (c_X1_setLowestFirst l D cI cF cJ ro rb 64 h g sz ((w &&& 4095) ||| x_5) (by omega) (by omega)) (cwV 2 hts gX0_replaceRiscPair_X1_setLowestFirst rfl rfl rfl (by decide +kernel) ⟨Nat.le_of_ble_eq_true rfl, Nat.le_of_ble_eq_true rfl⟩) hK hP hD hS hA [1, 2] [0] [0, 1, 2] rfl rfl rfl rfl (by decide) rfl rfl rfl rfl rfl hl.1 (Nat.le_of_ble_eq_true rfl) ⟨Nat.zero_le _, Nat.zero_le _⟩ dX0_replaceRiscPair_79 (fun H locs hP hD hS => ?_) rfl
      refine lv_aload_n hx hb dX0_replaceRiscPair_82 rfl (lv_at hl 3 rfl) ?_
      refine va_get (D := D) (ci := 0) (v := .ref ro) (C := RX0) (T := TX0) (N := 11) hx hb hts inX0 hown hK hP 0 rfl rfl 0 (by decide) k_14 (fun _ h9 => h9) rfl dX0_replaceRiscPair_83 ?_
      refine lv_aload_n hx hb dX0_replaceRiscPair_86 rfl (lv_at hl 3 rfl) ?_
      refine va_get (D := D) (ci := 0) (v := .int (nI h)) (C := RX0) (T := TX0) (N := 11) hx hb hts inX0 hown hK hP 0 rfl rfl 6 (by decide) k_65 (fun _ h9 => h9) rfl dX0_replaceRiscPair_87 ?_
      refine lv_iconst (v := 4) hx hb dX0_replaceRiscPair_90 (by decide) ?_
      refine lv_iadd hx hb dX0_replaceRiscPair_91 ?_
      refine kTop (y := nI (h + 4)) (nI_add _ 4) ?_
      refine lv_iload_n hx hb dX0_replaceRiscPair_92 rfl (lv_at hl 5 rfl) ?_
      refine lv_ldc (v := 1048575) hx hb hown k_134 dX0_replaceRiscPair_93 ?_
      refine lv_iand hx hb dX0_replaceRiscPair_95 ?_
      refine lv_iload hx hb dX0_replaceRiscPair_96 (lv_at hl 1 rfl) ?_
      refine lv_bipush (v := 20) hx hb dX0_replaceRiscPair_98 (by decide) ?_
      refine lv_ishl hx hb dX0_replaceRiscPair_100 ?_
      refine lv_ior hx hb dX0_replaceRiscPair_101 ?_
      refine kCallV (As := [.int (nI (h + 4)), .int ((v &&& 1048575) ||| (x_4 <<< ((20 : Int32) &&& 31)))]) (wc := [(ro, .inr (1, [.ref rb, .int sz])), (rb, .inl (cI, 64, .inl (cSetLo g h ((w &&& 4095) ||| x_5))))]) (wr := [(q, .inr (0, [.ref ro, .ref pa, .int kd, .int ds, .int en, .int pl, .int (nI h), .int gv, .int rp, .int mk, .int la]))]) (ws' := [(q, .inr (0, [.ref ro, .ref pa, .int kd, .int ds, .int en, .int pl, .int (nI h), .int gv, .int rp, .int mk, .int la])), (ro, .inr (1, [.ref rb, .int sz])), (rb, .inl (cI, 64, .inl (cSetLo (cSetLo g h ((w &&& 4095) ||| x_5)) (h + 4) ((v &&& 1048575) ||| (x_4 <<< ((20 : Int32) &&& 31))))))]) (ci := 1) (C := RX1) ⟨hx, hb, hml, hown, hts⟩ (c_X1_setLowestFirst l D cI cF cJ ro rb 64 (h + 4) (cSetLo g h ((w &&& 4095) ||| x_5)) sz ((v &&& 1048575) ||| (x_4 <<< ((20 : Int32) &&& 31))) (by omega) (by omega)) (cwV 2 hts gX0_replaceRiscPair_X1_setLowestFirst rfl rfl rfl (by decide +kernel) ⟨Nat.le_of_ble_eq_true rfl, Nat.le_of_ble_eq_true rfl⟩) hK hP hD hS hA [1, 2] [0] [0, 1, 2] rfl rfl rfl rfl (by decide) rfl rfl rfl rfl rfl hl.1 (Nat.le_of_ble_eq_true rfl) ⟨Nat.zero_le _, Nat.zero_le _⟩ dX0_replaceRiscPair_102 (fun H locs hP hD hS => ?_) rfl
      refine lv_aload_n hx hb dX0_replaceRiscPair_105 rfl (lv_at hl 3 rfl) ?_
      refine lv_dup hx hb dX0_replaceRiscPair_106 rfl ?_
      refine va_get (D := D) (ci := 0) (v := .int rp) (C := RX0) (T := TX0) (N := 11) hx hb hts inX0 hown hK hP 0 rfl rfl 8 (by decide) k_48 (fun _ h9 => h9) rfl dX0_replaceRiscPair_107 ?_
      refine lv_iconst (v := 1) hx hb dX0_replaceRiscPair_110 (by decide) ?_
      refine lv_iadd hx hb dX0_replaceRiscPair_111 ?_
      refine kPut (D := D) (ci := 0) (v := .int (rp + 1)) (ty := .int) (C := RX0) (T := TX0) (N := 11) (ws' := [(q, .inr (0, [.ref ro, .ref pa, .int kd, .int ds, .int en, .int pl, .int (nI h), .int gv, .int (rp + 1), .int mk, .int la])), (ro, .inr (1, [.ref rb, .int sz])), (rb, .inl (cI, 64, .inl (cSetLo (cSetLo g h ((w &&& 4095) ||| x_5)) (h + 4) ((v &&& 1048575) ||| (x_4 <<< ((20 : Int32) &&& 31))))))]) hx hb hts inX0 tyX0 tyX0_ok nmX0 hown hK hP hD hS 0 rfl rfl 8 (by decide) k_48 rfl (by decide +kernel) (rfl) (by first | rfl | decide) (Nat.le_of_ble_eq_true rfl) rfl dX0_replaceRiscPair_112 (fun H locs hP hD hS => ?_)
      subst e_5
      subst e_4
      subst e_1
      have e9 : cRp en pl rp w v r h g = (rp + 1, cSetLo (cSetLo g h ((w &&& 4095) ||| (((cMd en ((w &&& (-4096)) + (v >>> ((20 : Int32) &&& 31))) pl) + 2048) &&& (-4096)))) (h + 4) ((v &&& 1048575) ||| ((cMd en ((w &&& (-4096)) + (v >>> ((20 : Int32) &&& 31))) pl) <<< ((20 : Int32) &&& 31)))) := (if_pos c_2).trans (if_pos c_3)
      exact hret _ _ _ _ dX0_replaceRiscPair_115 (by rw [e9]; exact hP) (by rw [e9]; exact hD) hS
    · refine lv_iload hx hb dX0_replaceRiscPair_24 (lv_at hl 0 rfl) ?_
      refine lv_iconst (v := 3) hx hb dX0_replaceRiscPair_26 (by decide) ?_
      refine lv_icmp_eq (tgt := 31) hx hb dX0_replaceRiscPair_27 (by decide) (fun c_6 => ?_) (fun c_6 => ?_)
      · refine lv_aload_n hx hb dX0_replaceRiscPair_31 rfl (lv_at hl 1 rfl) ?_
        refine lv_iload_n hx hb dX0_replaceRiscPair_32 rfl (lv_at hl 2 rfl) ?_
        refine lv_sipush (v := (-4096)) hx hb dX0_replaceRiscPair_33 (by decide) ?_
        refine lv_iand hx hb dX0_replaceRiscPair_36 ?_
        refine lv_iload_n hx hb dX0_replaceRiscPair_37 rfl (lv_at hl 3 rfl) ?_
        refine lv_bipush (v := 20) hx hb dX0_replaceRiscPair_38 (by decide) ?_
        refine lv_ishr hx hb dX0_replaceRiscPair_40 ?_
        refine lv_iadd hx hb dX0_replaceRiscPair_41 ?_
        refine lv_aload_n hx hb dX0_replaceRiscPair_42 rfl (lv_at hl 1 rfl) ?_
        refine va_get (D := D) (ci := 0) (v := .int pl) (C := RX0) (T := TX0) (N := 11) hx hb hts inX0 hown hK hP 0 rfl rfl 5 (by decide) k_42 (fun _ h9 => h9) rfl dX0_replaceRiscPair_43 ?_
        refine kCallI (As := [.int ((w &&& (-4096)) + (v >>> ((20 : Int32) &&& 31))), .int pl]) (wc := [(q, .inr (0, [.ref ro, .ref pa, .int kd, .int ds, .int en, .int pl, .int (nI h), .int gv, .int rp, .int mk, .int la]))]) (wr := [(ro, .inr (1, [.ref rb, .int sz])), (rb, .inl (cI, 64, .inl g))]) (ws' := [(q, .inr (0, [.ref ro, .ref pa, .int kd, .int ds, .int en, .int pl, .int (nI h), .int gv, .int rp, .int mk, .int la])), (ro, .inr (1, [.ref rb, .int sz])), (rb, .inl (cI, 64, .inl g))]) (ci := 0) (C := RX0) ⟨hx, hb, hml, hown, hts⟩ (c_X0_moved l D cI cF cJ q ro pa kd ds en pl (nI h) gv rp mk la ((w &&& (-4096)) + (v >>> ((20 : Int32) &&& 31))) pl ) (cwV 2 hts gX0_replaceRiscPair_X0_moved rfl rfl rfl (by decide +kernel) ⟨Nat.le_of_ble_eq_true rfl, Nat.le_of_ble_eq_true rfl⟩) hK hP hD hS hA [0] [1, 2] [2, 0, 1] rfl rfl rfl rfl (by decide) rfl rfl rfl rfl rfl hl.1 (Nat.le_of_ble_eq_true rfl) ⟨Nat.zero_le _, Nat.zero_le _⟩ dX0_replaceRiscPair_46 (fun H locs hP hD hS => ?_) rfl
        refine lv_topi (fun x_7 e_7 => ?_)
        refine lv_istore (lv' := [(5, .int x_7), (4, .int x_1), (0, .ref q), (1, .int w), (2, .int v), (3, .int r)]) hx hb dX0_replaceRiscPair_49 hl (by decide) rfl (fun ls hl => ?_)
        refine lv_iload hx hb dX0_replaceRiscPair_51 (lv_at hl 0 rfl) ?_
        refine lv_sipush (v := 2048) hx hb dX0_replaceRiscPair_53 (by decide) ?_
        refine lv_iadd hx hb dX0_replaceRiscPair_56 ?_
        refine lv_sipush (v := (-4096)) hx hb dX0_replaceRiscPair_57 (by decide) ?_
        refine lv_iand hx hb dX0_replaceRiscPair_60 ?_
        refine lv_topi (fun x_8 e_8 => ?_)
        refine lv_istore (lv' := [(6, .int x_8), (5, .int x_7), (4, .int x_1), (0, .ref q), (1, .int w), (2, .int v), (3, .int r)]) hx hb dX0_replaceRiscPair_61 hl (by decide) rfl (fun ls hl => ?_)
        refine lv_aload_n hx hb dX0_replaceRiscPair_63 rfl (lv_at hl 3 rfl) ?_
        refine va_get (D := D) (ci := 0) (v := .ref ro) (C := RX0) (T := TX0) (N := 11) hx hb hts inX0 hown hK hP 0 rfl rfl 0 (by decide) k_14 (fun _ h9 => h9) rfl dX0_replaceRiscPair_64 ?_
        refine lv_aload_n hx hb dX0_replaceRiscPair_67 rfl (lv_at hl 3 rfl) ?_
        refine va_get (D := D) (ci := 0) (v := .int (nI h)) (C := RX0) (T := TX0) (N := 11) hx hb hts inX0 hown hK hP 0 rfl rfl 6 (by decide) k_65 (fun _ h9 => h9) rfl dX0_replaceRiscPair_68 ?_
        refine lv_iload_n hx hb dX0_replaceRiscPair_71 rfl (lv_at hl 4 rfl) ?_
        refine lv_sipush (v := 4095) hx hb dX0_replaceRiscPair_72 (by decide) ?_
        refine lv_iand hx hb dX0_replaceRiscPair_75 ?_
        refine lv_iload hx hb dX0_replaceRiscPair_76 (lv_at hl 0 rfl) ?_
        refine lv_ior hx hb dX0_replaceRiscPair_78 ?_
        refine kCallV (As := [.int (nI h), .int ((w &&& 4095) ||| x_8)]) (wc := [(ro, .inr (1, [.ref rb, .int sz])), (rb, .inl (cI, 64, .inl g))]) (wr := [(q, .inr (0, [.ref ro, .ref pa, .int kd, .int ds, .int en, .int pl, .int (nI h), .int gv, .int rp, .int mk, .int la]))]) (ws' := [(q, .inr (0, [.ref ro, .ref pa, .int kd, .int ds, .int en, .int pl, .int (nI h), .int gv, .int rp, .int mk, .int la])), (ro, .inr (1, [.ref rb, .int sz])), (rb, .inl (cI, 64, .inl (cSetLo g h ((w &&& 4095) ||| x_8))))]) (ci := 1) (C := RX1) ⟨hx, hb, hml, hown, hts⟩ (c_X1_setLowestFirst l D cI cF cJ ro rb 64 h g sz ((w &&& 4095) ||| x_8) (by omega) (by omega)) (cwV 2 hts gX0_replaceRiscPair_X1_setLowestFirst rfl rfl rfl (by decide +kernel) ⟨Nat.le_of_ble_eq_true rfl, Nat.le_of_ble_eq_true rfl⟩) hK hP hD hS hA [1, 2] [0] [0, 1, 2] rfl rfl rfl rfl (by decide) rfl rfl rfl rfl rfl hl.1 (Nat.le_of_ble_eq_true rfl) ⟨Nat.zero_le _, Nat.zero_le _⟩ dX0_replaceRiscPair_79 (fun H locs hP hD hS => ?_) rfl
        refine lv_aload_n hx hb dX0_replaceRiscPair_82 rfl (lv_at hl 3 rfl) ?_
        refine va_get (D := D) (ci := 0) (v := .ref ro) (C := RX0) (T := TX0) (N := 11) hx hb hts inX0 hown hK hP 0 rfl rfl 0 (by decide) k_14 (fun _ h9 => h9) rfl dX0_replaceRiscPair_83 ?_
        refine lv_aload_n hx hb dX0_replaceRiscPair_86 rfl (lv_at hl 3 rfl) ?_
        refine va_get (D := D) (ci := 0) (v := .int (nI h)) (C := RX0) (T := TX0) (N := 11) hx hb hts inX0 hown hK hP 0 rfl rfl 6 (by decide) k_65 (fun _ h9 => h9) rfl dX0_replaceRiscPair_87 ?_
        refine lv_iconst (v := 4) hx hb dX0_replaceRiscPair_90 (by decide) ?_
        refine lv_iadd hx hb dX0_replaceRiscPair_91 ?_
        refine kTop (y := nI (h + 4)) (nI_add _ 4) ?_
        refine lv_iload_n hx hb dX0_replaceRiscPair_92 rfl (lv_at hl 5 rfl) ?_
        refine lv_ldc (v := 1048575) hx hb hown k_134 dX0_replaceRiscPair_93 ?_
        refine lv_iand hx hb dX0_replaceRiscPair_95 ?_
        refine lv_iload hx hb dX0_replaceRiscPair_96 (lv_at hl 1 rfl) ?_
        refine lv_bipush (v := 20) hx hb dX0_replaceRiscPair_98 (by decide) ?_
        refine lv_ishl hx hb dX0_replaceRiscPair_100 ?_
        refine lv_ior hx hb dX0_replaceRiscPair_101 ?_
        refine kCallV (As := [.int (nI (h + 4)), .int ((v &&& 1048575) ||| (x_7 <<< ((20 : Int32) &&& 31)))]) (wc := [(ro, .inr (1, [.ref rb, .int sz])), (rb, .inl (cI, 64, .inl (cSetLo g h ((w &&& 4095) ||| x_8))))]) (wr := [(q, .inr (0, [.ref ro, .ref pa, .int kd, .int ds, .int en, .int pl, .int (nI h), .int gv, .int rp, .int mk, .int la]))]) (ws' := [(q, .inr (0, [.ref ro, .ref pa, .int kd, .int ds, .int en, .int pl, .int (nI h), .int gv, .int rp, .int mk, .int la])), (ro, .inr (1, [.ref rb, .int sz])), (rb, .inl (cI, 64, .inl (cSetLo (cSetLo g h ((w &&& 4095) ||| x_8)) (h + 4) ((v &&& 1048575) ||| (x_7 <<< ((20 : Int32) &&& 31))))))]) (ci := 1) (C := RX1) ⟨hx, hb, hml, hown, hts⟩ (c_X1_setLowestFirst l D cI cF cJ ro rb 64 (h + 4) (cSetLo g h ((w &&& 4095) ||| x_8)) sz ((v &&& 1048575) ||| (x_7 <<< ((20 : Int32) &&& 31))) (by omega) (by omega)) (cwV 2 hts gX0_replaceRiscPair_X1_setLowestFirst rfl rfl rfl (by decide +kernel) ⟨Nat.le_of_ble_eq_true rfl, Nat.le_of_ble_eq_true rfl⟩) hK hP hD hS hA [1, 2] [0] [0, 1, 2] rfl rfl rfl rfl (by decide) rfl rfl rfl rfl rfl hl.1 (Nat.le_of_ble_eq_true rfl) ⟨Nat.zero_le _, Nat.zero_le _⟩ dX0_replaceRiscPair_102 (fun H locs hP hD hS => ?_) rfl
        refine lv_aload_n hx hb dX0_replaceRiscPair_105 rfl (lv_at hl 3 rfl) ?_
        refine lv_dup hx hb dX0_replaceRiscPair_106 rfl ?_
        refine va_get (D := D) (ci := 0) (v := .int rp) (C := RX0) (T := TX0) (N := 11) hx hb hts inX0 hown hK hP 0 rfl rfl 8 (by decide) k_48 (fun _ h9 => h9) rfl dX0_replaceRiscPair_107 ?_
        refine lv_iconst (v := 1) hx hb dX0_replaceRiscPair_110 (by decide) ?_
        refine lv_iadd hx hb dX0_replaceRiscPair_111 ?_
        refine kPut (D := D) (ci := 0) (v := .int (rp + 1)) (ty := .int) (C := RX0) (T := TX0) (N := 11) (ws' := [(q, .inr (0, [.ref ro, .ref pa, .int kd, .int ds, .int en, .int pl, .int (nI h), .int gv, .int (rp + 1), .int mk, .int la])), (ro, .inr (1, [.ref rb, .int sz])), (rb, .inl (cI, 64, .inl (cSetLo (cSetLo g h ((w &&& 4095) ||| x_8)) (h + 4) ((v &&& 1048575) ||| (x_7 <<< ((20 : Int32) &&& 31))))))]) hx hb hts inX0 tyX0 tyX0_ok nmX0 hown hK hP hD hS 0 rfl rfl 8 (by decide) k_48 rfl (by decide +kernel) (rfl) (by first | rfl | decide) (Nat.le_of_ble_eq_true rfl) rfl dX0_replaceRiscPair_112 (fun H locs hP hD hS => ?_)
        subst e_8
        subst e_7
        subst e_1
        have e9 : cRp en pl rp w v r h g = (rp + 1, cSetLo (cSetLo g h ((w &&& 4095) ||| (((cMd en ((w &&& (-4096)) + (v >>> ((20 : Int32) &&& 31))) pl) + 2048) &&& (-4096)))) (h + 4) ((v &&& 1048575) ||| ((cMd en ((w &&& (-4096)) + (v >>> ((20 : Int32) &&& 31))) pl) <<< ((20 : Int32) &&& 31)))) := (if_pos c_2).trans ((if_neg c_3).trans (if_pos c_6))
        exact hret _ _ _ _ dX0_replaceRiscPair_115 (by rw [e9]; exact hP) (by rw [e9]; exact hD) hS
      · subst e_1
        have e9 : cRp en pl rp w v r h g = (rp, g) := (if_pos c_2).trans ((if_neg c_3).trans (if_neg c_6))
        exact hret _ _ _ _ dX0_replaceRiscPair_30 (by rw [e9]; exact hP) (by rw [e9]; exact hD) hS

def cRisc (en : Int32) (pl : Int32) (rp : Int32) (h : Nat) (g : Nat → Int32) : Int32 × Int32 × (Nat → Int32) := (if ((cLo g h) &&& 127) = 111 then (if ((kU (cLo g h) 7) &&& 31) = 1 then (4, (cRj en pl rp (cLo g h) h g).1, (cRj en pl rp (cLo g h) h g).2) else (if ((kU (cLo g h) 7) &&& 31) = 5 then (4, (cRj en pl rp (cLo g h) h g).1, (cRj en pl rp (cLo g h) h g).2) else (if ((cLo g h) &&& 127) = 23 then (if ((kU (cLo g h) 7) &&& 31) = 0 then (2, rp, g) else (8, (cRp en pl rp (cLo g h) (cLo g (h + 4)) ((kU (cLo g h) 7) &&& 31) h g).1, (cRp en pl rp (cLo g h) (cLo g (h + 4)) ((kU (cLo g h) 7) &&& 31) h g).2)) else (2, rp, g)))) else (if ((cLo g h) &&& 127) = 23 then (if ((kU (cLo g h) 7) &&& 31) = 0 then (2, rp, g) else (8, (cRp en pl rp (cLo g h) (cLo g (h + 4)) ((kU (cLo g h) 7) &&& 31) h g).1, (cRp en pl rp (cLo g h) (cLo g (h + 4)) ((kU (cLo g h) 7) &&& 31) h g).2)) else (2, rp, g)))

set_option maxHeartbeats 4000000 in
set_option maxRecDepth 100000 in
/-- Filter.stepRisc() -/
theorem c_X0_stepRisc (l : Launch) (D : va_G) (cI cF cJ : ClassId) (q ro pa rb h : Nat) (kd ds en pl gv rp mk la sz : Int32) (g : Nat → Int32) (hk : h + 7 < 64) : kI l yX0_stepRisc wsX0_stepRisc ({ frames := 2, cells := 0, slots := 0, locals := 48 }) D (kTy cI cF cJ) [.ref q] [(q, .inr (0, [.ref ro, .ref pa, .int kd, .int ds, .int en, .int pl, .int (nI h), .int gv, .int rp, .int mk, .int la])), (ro, .inr (1, [.ref rb, .int sz])), (rb, .inl (cI, 64, .inl g))] [(q, .inr (0, [.ref ro, .ref pa, .int kd, .int ds, .int en, .int pl, .int (nI h), .int gv, .int ((cRisc en pl rp h g).2.1), .int mk, .int la])), (ro, .inr (1, [.ref rb, .int sz])), (rb, .inl (cI, 64, .inl ((cRisc en pl rp h g).2.2)))] ((cRisc en pl rp h g).1) := by
  refine kI_of (cc := cX0_stepRisc) (nL := 4) (ty := .int) (own := RX0) (lv := [(0, .ref q)]) (by decide) rfl rfl (Nat.le_of_ble_eq_true rfl) rfl (rfl) ?_
  intro p e s m args below meth c A ls Q C hA hK hP hD hS hl hret
  obtain ⟨hx, hb, hr, hml, hown, hts, hlocks⟩ := C
  have k_14 := hts (.fieldLink RX0 14 "BranchFilters$Filter" "held" "LBranchFilters$Row;") (by decide +kernel)
  have k_65 := hts (.fieldLink RX0 65 "BranchFilters$Filter" "here" "I") (by decide +kernel)
  have inX0 : ∀ w ∈ wsX00, w ∈ wsX0_stepRisc := by decide +kernel
  refine lv_aload_n hx hb dX0_stepRisc_0 rfl (lv_at hl 0 rfl) ?_
  refine va_get (D := D) (ci := 0) (v := .ref ro) (C := RX0) (T := TX0) (N := 11) hx hb hts inX0 hown hK hP 0 rfl rfl 0 (by decide) k_14 (fun _ h9 => h9) rfl dX0_stepRisc_1 ?_
  refine lv_aload_n hx hb dX0_stepRisc_4 rfl (lv_at hl 0 rfl) ?_
  refine va_get (D := D) (ci := 0) (v := .int (nI h)) (C := RX0) (T := TX0) (N := 11) hx hb hts inX0 hown hK hP 0 rfl rfl 6 (by decide) k_65 (fun _ h9 => h9) rfl dX0_stepRisc_5 ?_
  refine kCallI (As := [.int (nI h)]) (wc := [(ro, .inr (1, [.ref rb, .int sz])), (rb, .inl (cI, 64, .inl g))]) (wr := [(q, .inr (0, [.ref ro, .ref pa, .int kd, .int ds, .int en, .int pl, .int (nI h), .int gv, .int rp, .int mk, .int la]))]) (ws' := [(q, .inr (0, [.ref ro, .ref pa, .int kd, .int ds, .int en, .int pl, .int (nI h), .int gv, .int rp, .int mk, .int la])), (ro, .inr (1, [.ref rb, .int sz])), (rb, .inl (cI, 64, .inl g))]) (ci := 1) (C := RX1) ⟨hx, hb, hml, hown, hts⟩ (c_X1_lowestFirst l D cI cF cJ ro rb 64 h g sz (by omega) (by omega)) (cwV 1 hts gX0_stepRisc_X1_lowestFirst rfl rfl rfl (by decide +kernel) ⟨Nat.le_of_ble_eq_true rfl, Nat.le_of_ble_eq_true rfl⟩) hK hP hD hS hA [1, 2] [0] [0, 1, 2] rfl rfl rfl rfl (by decide) rfl rfl rfl rfl rfl hl.1 (Nat.le_of_ble_eq_true rfl) ⟨Nat.zero_le _, Nat.zero_le _⟩ dX0_stepRisc_8 (fun H locs hP hD hS => ?_) rfl
  refine lv_topi (fun x_1 e_1 => ?_)
  refine lv_istore_n (lv' := [(1, .int x_1), (0, .ref q)]) hx hb dX0_stepRisc_11 rfl hl (by decide) rfl (fun ls hl => ?_)
  refine lv_iload_n hx hb dX0_stepRisc_12 rfl (lv_at hl 0 rfl) ?_
  refine lv_bipush (v := 127) hx hb dX0_stepRisc_13 (by decide) ?_
  refine lv_iand hx hb dX0_stepRisc_15 ?_
  refine lv_topi (fun x_2 e_2 => ?_)
  refine lv_istore_n (lv' := [(2, .int x_2), (1, .int x_1), (0, .ref q)]) hx hb dX0_stepRisc_16 rfl hl (by decide) rfl (fun ls hl => ?_)
  refine lv_iload_n hx hb dX0_stepRisc_17 rfl (lv_at hl 1 rfl) ?_
  refine lv_bipush (v := 7) hx hb dX0_stepRisc_18 (by decide) ?_
  refine lv_iushr (v := (kU x_1 7)) hx hb dX0_stepRisc_20 rfl ?_
  refine lv_bipush (v := 31) hx hb dX0_stepRisc_21 (by decide) ?_
  refine lv_iand hx hb dX0_stepRisc_23 ?_
  refine lv_topi (fun x_3 e_3 => ?_)
  refine lv_istore_n (lv' := [(3, .int x_3), (2, .int x_2), (1, .int x_1), (0, .ref q)]) hx hb dX0_stepRisc_24 rfl hl (by decide) rfl (fun ls hl => ?_)
  refine lv_iload_n hx hb dX0_stepRisc_25 rfl (lv_at hl 1 rfl) ?_
  refine lv_bipush (v := 111) hx hb dX0_stepRisc_26 (by decide) ?_
  refine lv_icmp_ne (tgt := 48) hx hb dX0_stepRisc_28 (by decide) (fun c_4 => ?_) (fun c_4 => ?_)
  · refine lv_iload_n hx hb dX0_stepRisc_48 rfl (lv_at hl 1 rfl) ?_
    refine lv_bipush (v := 23) hx hb dX0_stepRisc_49 (by decide) ?_
    refine lv_icmp_ne (tgt := 80) hx hb dX0_stepRisc_51 (by decide) (fun c_5 => ?_) (fun c_5 => ?_)
    · refine lv_iconst (v := 2) hx hb dX0_stepRisc_80 (by decide) ?_
      subst e_3
      subst e_2
      subst e_1
      have e9 : cRisc en pl rp h g = (2, rp, g) := (if_neg c_4).trans (if_neg c_5)
      exact hret _ _ _ _ _ dX0_stepRisc_81 (by rw [e9]) (by rw [e9]; exact hP) (by rw [e9]; exact hD) hS
    · refine lv_iload_n hx hb dX0_stepRisc_54 rfl (lv_at hl 0 rfl) ?_
      refine lv_if_eq (tgt := 80) hx hb dX0_stepRisc_55 (by decide) (fun c_6 => ?_) (fun c_6 => ?_)
      · refine lv_iconst (v := 2) hx hb dX0_stepRisc_80 (by decide) ?_
        subst e_3
        subst e_2
        subst e_1
        have e9 : cRisc en pl rp h g = (2, rp, g) := (if_neg c_4).trans ((if_pos c_5).trans (if_pos c_6))
        exact hret _ _ _ _ _ dX0_stepRisc_81 (by rw [e9]) (by rw [e9]; exact hP) (by rw [e9]; exact hD) hS
      · refine lv_aload_n hx hb dX0_stepRisc_58 rfl (lv_at hl 3 rfl) ?_
        refine lv_iload_n hx hb dX0_stepRisc_59 rfl (lv_at hl 2 rfl) ?_
        refine lv_aload_n hx hb dX0_stepRisc_60 rfl (lv_at hl 3 rfl) ?_
        refine va_get (D := D) (ci := 0) (v := .ref ro) (C := RX0) (T := TX0) (N := 11) hx hb hts inX0 hown hK hP 0 rfl rfl 0 (by decide) k_14 (fun _ h9 => h9) rfl dX0_stepRisc_61 ?_
        refine lv_aload_n hx hb dX0_stepRisc_64 rfl (lv_at hl 3 rfl) ?_
        refine va_get (D := D) (ci := 0) (v := .int (nI h)) (C := RX0) (T := TX0) (N := 11) hx hb hts inX0 hown hK hP 0 rfl rfl 6 (by decide) k_65 (fun _ h9 => h9) rfl dX0_stepRisc_65 ?_
        refine lv_iconst (v := 4) hx hb dX0_stepRisc_68 (by decide) ?_
        refine lv_iadd hx hb dX0_stepRisc_69 ?_
        refine kTop (y := nI (h + 4)) (nI_add _ 4) ?_
        refine kCallI (As := [.int (nI (h + 4))]) (wc := [(ro, .inr (1, [.ref rb, .int sz])), (rb, .inl (cI, 64, .inl g))]) (wr := [(q, .inr (0, [.ref ro, .ref pa, .int kd, .int ds, .int en, .int pl, .int (nI h), .int gv, .int rp, .int mk, .int la]))]) (ws' := [(q, .inr (0, [.ref ro, .ref pa, .int kd, .int ds, .int en, .int pl, .int (nI h), .int gv, .int rp, .int mk, .int la])), (ro, .inr (1, [.ref rb, .int sz])), (rb, .inl (cI, 64, .inl g))]) (ci := 1) (C := RX1) ⟨hx, hb, hml, hown, hts⟩ (c_X1_lowestFirst l D cI cF cJ ro rb 64 (h + 4) g sz (by omega) (by omega)) (cwV 1 hts gX0_stepRisc_X1_lowestFirst rfl rfl rfl (by decide +kernel) ⟨Nat.le_of_ble_eq_true rfl, Nat.le_of_ble_eq_true rfl⟩) hK hP hD hS hA [1, 2] [0] [0, 1, 2] rfl rfl rfl rfl (by decide) rfl rfl rfl rfl rfl hl.1 (Nat.le_of_ble_eq_true rfl) ⟨Nat.zero_le _, Nat.zero_le _⟩ dX0_stepRisc_70 (fun H locs hP hD hS => ?_) rfl
        refine lv_iload_n hx hb dX0_stepRisc_73 rfl (lv_at hl 0 rfl) ?_
        refine kCallV (As := [.int x_1, .int (cLo g (h + 4)), .int x_3]) (wc := [(q, .inr (0, [.ref ro, .ref pa, .int kd, .int ds, .int en, .int pl, .int (nI h), .int gv, .int rp, .int mk, .int la])), (ro, .inr (1, [.ref rb, .int sz])), (rb, .inl (cI, 64, .inl g))]) (wr := []) (ws' := [(q, .inr (0, [.ref ro, .ref pa, .int kd, .int ds, .int en, .int pl, .int (nI h), .int gv, .int ((cRp en pl rp x_1 (cLo g (h + 4)) x_3 h g).1), .int mk, .int la])), (ro, .inr (1, [.ref rb, .int sz])), (rb, .inl (cI, 64, .inl ((cRp en pl rp x_1 (cLo g (h + 4)) x_3 h g).2)))]) (ci := 0) (C := RX0) ⟨hx, hb, hml, hown, hts⟩ (c_X0_replaceRiscPair l D cI cF cJ q ro pa rb h kd ds en pl gv rp mk la sz g x_1 (cLo g (h + 4)) x_3 (by omega)) (cwV 3 hts gX0_stepRisc_X0_replaceRiscPair rfl rfl rfl (by decide +kernel) ⟨Nat.le_of_ble_eq_true rfl, Nat.le_of_ble_eq_true rfl⟩) hK hP hD hS hA [0, 1, 2] [] [0, 1, 2] rfl rfl rfl rfl (by decide) rfl rfl rfl rfl rfl hl.1 (Nat.le_of_ble_eq_true rfl) ⟨Nat.zero_le _, Nat.zero_le _⟩ dX0_stepRisc_74 (fun H locs hP hD hS => ?_) rfl
        refine lv_bipush (v := 8) hx hb dX0_stepRisc_77 (by decide) ?_
        subst e_3
        subst e_2
        subst e_1
        have e9 : cRisc en pl rp h g = (8, (cRp en pl rp (cLo g h) (cLo g (h + 4)) ((kU (cLo g h) 7) &&& 31) h g).1, (cRp en pl rp (cLo g h) (cLo g (h + 4)) ((kU (cLo g h) 7) &&& 31) h g).2) := (if_neg c_4).trans ((if_pos c_5).trans (if_neg c_6))
        exact hret _ _ _ _ _ dX0_stepRisc_79 (by rw [e9]) (by rw [e9]; exact hP) (by rw [e9]; exact hD) hS
  · refine lv_iload_n hx hb dX0_stepRisc_31 rfl (lv_at hl 0 rfl) ?_
    refine lv_iconst (v := 1) hx hb dX0_stepRisc_32 (by decide) ?_
    refine lv_icmp_eq (tgt := 41) hx hb dX0_stepRisc_33 (by decide) (fun c_7 => ?_) (fun c_7 => ?_)
    · refine lv_aload_n hx hb dX0_stepRisc_41 rfl (lv_at hl 3 rfl) ?_
      refine lv_iload_n hx hb dX0_stepRisc_42 rfl (lv_at hl 2 rfl) ?_
      refine kCallV (As := [.int x_1]) (wc := [(q, .inr (0, [.ref ro, .ref pa, .int kd, .int ds, .int en, .int pl, .int (nI h), .int gv, .int rp, .int mk, .int la])), (ro, .inr (1, [.ref rb, .int sz])), (rb, .inl (cI, 64, .inl g))]) (wr := []) (ws' := [(q, .inr (0, [.ref ro, .ref pa, .int kd, .int ds, .int en, .int pl, .int (nI h), .int gv, .int ((cRj en pl rp x_1 h g).1), .int mk, .int la])), (ro, .inr (1, [.ref rb, .int sz])), (rb, .inl (cI, 64, .inl ((cRj en pl rp x_1 h g).2)))]) (ci := 0) (C := RX0) ⟨hx, hb, hml, hown, hts⟩ (c_X0_replaceRiscJump l D cI cF cJ q ro pa rb h kd ds en pl gv rp mk la sz g x_1 (by omega)) (cwV 1 hts gX0_stepRisc_X0_replaceRiscJump rfl rfl rfl (by decide +kernel) ⟨Nat.le_of_ble_eq_true rfl, Nat.le_of_ble_eq_true rfl⟩) hK hP hD hS hA [0, 1, 2] [] [0, 1, 2] rfl rfl rfl rfl (by decide) rfl rfl rfl rfl rfl hl.1 (Nat.le_of_ble_eq_true rfl) ⟨Nat.zero_le _, Nat.zero_le _⟩ dX0_stepRisc_43 (fun H locs hP hD hS => ?_) rfl
      refine lv_iconst (v := 4) hx hb dX0_stepRisc_46 (by decide) ?_
      subst e_3
      subst e_2
      subst e_1
      have e9 : cRisc en pl rp h g = (4, (cRj en pl rp (cLo g h) h g).1, (cRj en pl rp (cLo g h) h g).2) := (if_pos c_4).trans (if_pos c_7)
      exact hret _ _ _ _ _ dX0_stepRisc_47 (by rw [e9]) (by rw [e9]; exact hP) (by rw [e9]; exact hD) hS
    · refine lv_iload_n hx hb dX0_stepRisc_36 rfl (lv_at hl 0 rfl) ?_
      refine lv_iconst (v := 5) hx hb dX0_stepRisc_37 (by decide) ?_
      refine lv_icmp_ne (tgt := 48) hx hb dX0_stepRisc_38 (by decide) (fun c_8 => ?_) (fun c_8 => ?_)
      · refine lv_iload_n hx hb dX0_stepRisc_48 rfl (lv_at hl 1 rfl) ?_
        refine lv_bipush (v := 23) hx hb dX0_stepRisc_49 (by decide) ?_
        refine lv_icmp_ne (tgt := 80) hx hb dX0_stepRisc_51 (by decide) (fun c_9 => ?_) (fun c_9 => ?_)
        · refine lv_iconst (v := 2) hx hb dX0_stepRisc_80 (by decide) ?_
          subst e_3
          subst e_2
          subst e_1
          have e9 : cRisc en pl rp h g = (2, rp, g) := (if_pos c_4).trans ((if_neg c_7).trans ((if_neg c_8).trans (if_neg c_9)))
          exact hret _ _ _ _ _ dX0_stepRisc_81 (by rw [e9]) (by rw [e9]; exact hP) (by rw [e9]; exact hD) hS
        · refine lv_iload_n hx hb dX0_stepRisc_54 rfl (lv_at hl 0 rfl) ?_
          refine lv_if_eq (tgt := 80) hx hb dX0_stepRisc_55 (by decide) (fun c_10 => ?_) (fun c_10 => ?_)
          · refine lv_iconst (v := 2) hx hb dX0_stepRisc_80 (by decide) ?_
            subst e_3
            subst e_2
            subst e_1
            have e9 : cRisc en pl rp h g = (2, rp, g) := (if_pos c_4).trans ((if_neg c_7).trans ((if_neg c_8).trans ((if_pos c_9).trans (if_pos c_10))))
            exact hret _ _ _ _ _ dX0_stepRisc_81 (by rw [e9]) (by rw [e9]; exact hP) (by rw [e9]; exact hD) hS
          · refine lv_aload_n hx hb dX0_stepRisc_58 rfl (lv_at hl 3 rfl) ?_
            refine lv_iload_n hx hb dX0_stepRisc_59 rfl (lv_at hl 2 rfl) ?_
            refine lv_aload_n hx hb dX0_stepRisc_60 rfl (lv_at hl 3 rfl) ?_
            refine va_get (D := D) (ci := 0) (v := .ref ro) (C := RX0) (T := TX0) (N := 11) hx hb hts inX0 hown hK hP 0 rfl rfl 0 (by decide) k_14 (fun _ h9 => h9) rfl dX0_stepRisc_61 ?_
            refine lv_aload_n hx hb dX0_stepRisc_64 rfl (lv_at hl 3 rfl) ?_
            refine va_get (D := D) (ci := 0) (v := .int (nI h)) (C := RX0) (T := TX0) (N := 11) hx hb hts inX0 hown hK hP 0 rfl rfl 6 (by decide) k_65 (fun _ h9 => h9) rfl dX0_stepRisc_65 ?_
            refine lv_iconst (v := 4) hx hb dX0_stepRisc_68 (by decide) ?_
            refine lv_iadd hx hb dX0_stepRisc_69 ?_
            refine kTop (y := nI (h + 4)) (nI_add _ 4) ?_
            refine kCallI (As := [.int (nI (h + 4))]) (wc := [(ro, .inr (1, [.ref rb, .int sz])), (rb, .inl (cI, 64, .inl g))]) (wr := [(q, .inr (0, [.ref ro, .ref pa, .int kd, .int ds, .int en, .int pl, .int (nI h), .int gv, .int rp, .int mk, .int la]))]) (ws' := [(q, .inr (0, [.ref ro, .ref pa, .int kd, .int ds, .int en, .int pl, .int (nI h), .int gv, .int rp, .int mk, .int la])), (ro, .inr (1, [.ref rb, .int sz])), (rb, .inl (cI, 64, .inl g))]) (ci := 1) (C := RX1) ⟨hx, hb, hml, hown, hts⟩ (c_X1_lowestFirst l D cI cF cJ ro rb 64 (h + 4) g sz (by omega) (by omega)) (cwV 1 hts gX0_stepRisc_X1_lowestFirst rfl rfl rfl (by decide +kernel) ⟨Nat.le_of_ble_eq_true rfl, Nat.le_of_ble_eq_true rfl⟩) hK hP hD hS hA [1, 2] [0] [0, 1, 2] rfl rfl rfl rfl (by decide) rfl rfl rfl rfl rfl hl.1 (Nat.le_of_ble_eq_true rfl) ⟨Nat.zero_le _, Nat.zero_le _⟩ dX0_stepRisc_70 (fun H locs hP hD hS => ?_) rfl
            refine lv_iload_n hx hb dX0_stepRisc_73 rfl (lv_at hl 0 rfl) ?_
            refine kCallV (As := [.int x_1, .int (cLo g (h + 4)), .int x_3]) (wc := [(q, .inr (0, [.ref ro, .ref pa, .int kd, .int ds, .int en, .int pl, .int (nI h), .int gv, .int rp, .int mk, .int la])), (ro, .inr (1, [.ref rb, .int sz])), (rb, .inl (cI, 64, .inl g))]) (wr := []) (ws' := [(q, .inr (0, [.ref ro, .ref pa, .int kd, .int ds, .int en, .int pl, .int (nI h), .int gv, .int ((cRp en pl rp x_1 (cLo g (h + 4)) x_3 h g).1), .int mk, .int la])), (ro, .inr (1, [.ref rb, .int sz])), (rb, .inl (cI, 64, .inl ((cRp en pl rp x_1 (cLo g (h + 4)) x_3 h g).2)))]) (ci := 0) (C := RX0) ⟨hx, hb, hml, hown, hts⟩ (c_X0_replaceRiscPair l D cI cF cJ q ro pa rb h kd ds en pl gv rp mk la sz g x_1 (cLo g (h + 4)) x_3 (by omega)) (cwV 3 hts gX0_stepRisc_X0_replaceRiscPair rfl rfl rfl (by decide +kernel) ⟨Nat.le_of_ble_eq_true rfl, Nat.le_of_ble_eq_true rfl⟩) hK hP hD hS hA [0, 1, 2] [] [0, 1, 2] rfl rfl rfl rfl (by decide) rfl rfl rfl rfl rfl hl.1 (Nat.le_of_ble_eq_true rfl) ⟨Nat.zero_le _, Nat.zero_le _⟩ dX0_stepRisc_74 (fun H locs hP hD hS => ?_) rfl
            refine lv_bipush (v := 8) hx hb dX0_stepRisc_77 (by decide) ?_
            subst e_3
            subst e_2
            subst e_1
            have e9 : cRisc en pl rp h g = (8, (cRp en pl rp (cLo g h) (cLo g (h + 4)) ((kU (cLo g h) 7) &&& 31) h g).1, (cRp en pl rp (cLo g h) (cLo g (h + 4)) ((kU (cLo g h) 7) &&& 31) h g).2) := (if_pos c_4).trans ((if_neg c_7).trans ((if_neg c_8).trans ((if_pos c_9).trans (if_neg c_10))))
            exact hret _ _ _ _ _ dX0_stepRisc_79 (by rw [e9]) (by rw [e9]; exact hP) (by rw [e9]; exact hD) hS
      · refine lv_aload_n hx hb dX0_stepRisc_41 rfl (lv_at hl 3 rfl) ?_
        refine lv_iload_n hx hb dX0_stepRisc_42 rfl (lv_at hl 2 rfl) ?_
        refine kCallV (As := [.int x_1]) (wc := [(q, .inr (0, [.ref ro, .ref pa, .int kd, .int ds, .int en, .int pl, .int (nI h), .int gv, .int rp, .int mk, .int la])), (ro, .inr (1, [.ref rb, .int sz])), (rb, .inl (cI, 64, .inl g))]) (wr := []) (ws' := [(q, .inr (0, [.ref ro, .ref pa, .int kd, .int ds, .int en, .int pl, .int (nI h), .int gv, .int ((cRj en pl rp x_1 h g).1), .int mk, .int la])), (ro, .inr (1, [.ref rb, .int sz])), (rb, .inl (cI, 64, .inl ((cRj en pl rp x_1 h g).2)))]) (ci := 0) (C := RX0) ⟨hx, hb, hml, hown, hts⟩ (c_X0_replaceRiscJump l D cI cF cJ q ro pa rb h kd ds en pl gv rp mk la sz g x_1 (by omega)) (cwV 1 hts gX0_stepRisc_X0_replaceRiscJump rfl rfl rfl (by decide +kernel) ⟨Nat.le_of_ble_eq_true rfl, Nat.le_of_ble_eq_true rfl⟩) hK hP hD hS hA [0, 1, 2] [] [0, 1, 2] rfl rfl rfl rfl (by decide) rfl rfl rfl rfl rfl hl.1 (Nat.le_of_ble_eq_true rfl) ⟨Nat.zero_le _, Nat.zero_le _⟩ dX0_stepRisc_43 (fun H locs hP hD hS => ?_) rfl
        refine lv_iconst (v := 4) hx hb dX0_stepRisc_46 (by decide) ?_
        subst e_3
        subst e_2
        subst e_1
        have e9 : cRisc en pl rp h g = (4, (cRj en pl rp (cLo g h) h g).1, (cRj en pl rp (cLo g h) h g).2) := (if_pos c_4).trans ((if_neg c_7).trans (if_pos c_8))
        exact hret _ _ _ _ _ dX0_stepRisc_47 (by rw [e9]) (by rw [e9]; exact hP) (by rw [e9]; exact hD) hS
end
section
/-! BranchFilters$Filter: delta, X86, step, restart, giveRest -/

def cDelta (en : Int32) (pl : Int32) (ds : Int32) (h : Nat) (g : Nat → Int32) (pf : Nat → Int32) : Int32 × (Nat → Int32) × (Nat → Int32) := (if en = 0 then (1, (upd g h ((cMd en (g h) (-(pf (b5 (pl - ds))))) &&& 255)), (upd pf (b5 pl) ((upd g h ((cMd en (g h) (-(pf (b5 (pl - ds))))) &&& 255)) h))) else (1, upd g h ((cMd en (g h) (-(pf (b5 (pl - ds))))) &&& 255), (upd pf (b5 pl) (g h))))

set_option maxHeartbeats 4000000 in
set_option maxRecDepth 100000 in
/-- Filter.stepDelta() -/
theorem c_X0_stepDelta (l : Launch) (D : va_G) (cI cF cJ : ClassId) (q ro pa rb h : Nat) (kd ds en pl gv rp mk la sz : Int32) (g : Nat → Int32) (pf : Nat → Int32) (hk : h < 64) : kI l yX0_stepDelta wsX0_stepDelta ({ frames := 1, cells := 0, slots := 0, locals := 22 }) D (kTy cI cF cJ) [.ref q] [(q, .inr (0, [.ref ro, .ref pa, .int kd, .int ds, .int en, .int pl, .int (nI h), .int gv, .int rp, .int mk, .int la])), (ro, .inr (1, [.ref rb, .int sz])), (rb, .inl (cI, 64, .inl g)), (pa, .inl (cI, 32, .inl pf))] [(q, .inr (0, [.ref ro, .ref pa, .int kd, .int ds, .int en, .int pl, .int (nI h), .int gv, .int rp, .int mk, .int la])), (ro, .inr (1, [.ref rb, .int sz])), (rb, .inl (cI, 64, .inl ((cDelta en pl ds h g pf).2.1))), (pa, .inl (cI, 32, .inl ((cDelta en pl ds h g pf).2.2)))] ((cDelta en pl ds h g pf).1) := by
  refine kI_of (cc := cX0_stepDelta) (nL := 4) (ty := .int) (own := RX0) (lv := [(0, .ref q)]) (by decide) rfl rfl (Nat.le_of_ble_eq_true rfl) rfl (rfl) ?_
  intro p e s m args below meth c A ls Q C hA hK hP hD hS hl hret
  obtain ⟨hx, hb, hr, hml, hown, hts, hlocks⟩ := C
  have k_14 := hts (.fieldLink RX0 14 "BranchFilters$Filter" "held" "LBranchFilters$Row;") (by decide +kernel)
  have k_20 := hts (.fieldLink RX0 20 "BranchFilters$Filter" "past" "[I") (by decide +kernel)
  have k_24 := hts (.fieldLink RX0 24 "BranchFilters$Filter" "distance" "I") (by decide +kernel)
  have k_38 := hts (.fieldLink RX0 38 "BranchFilters$Filter" "encoding" "Z") (by decide +kernel)
  have k_42 := hts (.fieldLink RX0 42 "BranchFilters$Filter" "place" "I") (by decide +kernel)
  have k_65 := hts (.fieldLink RX0 65 "BranchFilters$Filter" "here" "I") (by decide +kernel)
  have inX0 : ∀ w ∈ wsX00, w ∈ wsX0_stepDelta := by decide +kernel
  refine lv_aload_n hx hb dX0_stepDelta_0 rfl (lv_at hl 0 rfl) ?_
  refine va_get (D := D) (ci := 0) (v := .int pl) (C := RX0) (T := TX0) (N := 11) hx hb hts inX0 hown hK hP 0 rfl rfl 5 (by decide) k_42 (fun _ h9 => h9) rfl dX0_stepDelta_1 ?_
  refine lv_bipush (v := 31) hx hb dX0_stepDelta_4 (by decide) ?_
  refine lv_iand hx hb dX0_stepDelta_6 ?_
  refine kTop (y := nI (b5 pl)) (b5_and _) ?_
  refine lv_istore_n (lv' := [(1, .int (nI (b5 pl))), (0, .ref q)]) hx hb dX0_stepDelta_7 rfl hl (by decide) rfl (fun ls hl => ?_)
  refine lv_aload_n hx hb dX0_stepDelta_8 rfl (lv_at hl 1 rfl) ?_
  refine va_get (D := D) (ci := 0) (v := .ref pa) (C := RX0) (T := TX0) (N := 11) hx hb hts inX0 hown hK hP 0 rfl rfl 1 (by decide) k_20 (fun _ h9 => h9) rfl dX0_stepDelta_9 ?_
  refine lv_aload_n hx hb dX0_stepDelta_12 rfl (lv_at hl 1 rfl) ?_
  refine va_get (D := D) (ci := 0) (v := .int pl) (C := RX0) (T := TX0) (N := 11) hx hb hts inX0 hown hK hP 0 rfl rfl 5 (by decide) k_42 (fun _ h9 => h9) rfl dX0_stepDelta_13 ?_
  refine lv_aload_n hx hb dX0_stepDelta_16 rfl (lv_at hl 1 rfl) ?_
  refine va_get (D := D) (ci := 0) (v := .int ds) (C := RX0) (T := TX0) (N := 11) hx hb hts inX0 hown hK hP 0 rfl rfl 3 (by decide) k_24 (fun _ h9 => h9) rfl dX0_stepDelta_17 ?_
  refine lv_isub hx hb dX0_stepDelta_20 ?_
  refine lv_bipush (v := 31) hx hb dX0_stepDelta_21 (by decide) ?_
  refine lv_iand hx hb dX0_stepDelta_23 ?_
  refine kTop (y := nI (b5 (pl - ds))) (b5_and _) ?_
  refine kIald (k := (b5 (pl - ds))) hx hb hK hP 3 0 rfl rfl (rfl) (b5_lt _) (by omega) dX0_stepDelta_24 ?_
  refine lv_topi (fun x_1 e_1 => ?_)
  refine lv_istore_n (lv' := [(2, .int x_1), (1, .int (nI (b5 pl))), (0, .ref q)]) hx hb dX0_stepDelta_25 rfl hl (by decide) rfl (fun ls hl => ?_)
  refine lv_aload_n hx hb dX0_stepDelta_26 rfl (lv_at hl 2 rfl) ?_
  refine va_get (D := D) (ci := 0) (v := .ref ro) (C := RX0) (T := TX0) (N := 11) hx hb hts inX0 hown hK hP 0 rfl rfl 0 (by decide) k_14 (fun _ h9 => h9) rfl dX0_stepDelta_27 ?_
  refine lv_aload_n hx hb dX0_stepDelta_30 rfl (lv_at hl 2 rfl) ?_
  refine va_get (D := D) (ci := 0) (v := .int (nI h)) (C := RX0) (T := TX0) (N := 11) hx hb hts inX0 hown hK hP 0 rfl rfl 6 (by decide) k_65 (fun _ h9 => h9) rfl dX0_stepDelta_31 ?_
  refine kCallI (As := [.int (nI h)]) (wc := [(ro, .inr (1, [.ref rb, .int sz])), (rb, .inl (cI, 64, .inl g))]) (wr := [(q, .inr (0, [.ref ro, .ref pa, .int kd, .int ds, .int en, .int pl, .int (nI h), .int gv, .int rp, .int mk, .int la])), (pa, .inl (cI, 32, .inl pf))]) (ws' := [(q, .inr (0, [.ref ro, .ref pa, .int kd, .int ds, .int en, .int pl, .int (nI h), .int gv, .int rp, .int mk, .int la])), (ro, .inr (1, [.ref rb, .int sz])), (rb, .inl (cI, 64, .inl g)), (pa, .inl (cI, 32, .inl pf))]) (ci := 1) (C := RX1) ⟨hx, hb, hml, hown, hts⟩ (c_X1_at l D cI cF cJ ro rb 64 h g sz (by omega) (by omega)) (cwV 1 hts gX0_stepDelta_X1_at rfl rfl rfl (by decide +kernel) ⟨Nat.le_of_ble_eq_true rfl, Nat.le_of_ble_eq_true rfl⟩) hK hP hD hS hA [1, 2] [0, 3] [0, 2, 3, 1] rfl rfl rfl rfl (by decide) rfl rfl rfl rfl rfl hl.1 (Nat.le_of_ble_eq_true rfl) ⟨Nat.zero_le _, Nat.zero_le _⟩ dX0_stepDelta_34 (fun H locs hP hD hS => ?_) rfl
  refine lv_topi (fun x_2 e_2 => ?_)
  refine lv_istore_n (lv' := [(3, .int x_2), (2, .int x_1), (1, .int (nI (b5 pl))), (0, .ref q)]) hx hb dX0_stepDelta_37 rfl hl (by decide) rfl (fun ls hl => ?_)
  refine lv_aload_n hx hb dX0_stepDelta_38 rfl (lv_at hl 3 rfl) ?_
  refine va_get (D := D) (ci := 0) (v := .ref ro) (C := RX0) (T := TX0) (N := 11) hx hb hts inX0 hown hK hP 0 rfl rfl 0 (by decide) k_14 (fun _ h9 => h9) rfl dX0_stepDelta_39 ?_
  refine lv_aload_n hx hb dX0_stepDelta_42 rfl (lv_at hl 3 rfl) ?_
  refine va_get (D := D) (ci := 0) (v := .int (nI h)) (C := RX0) (T := TX0) (N := 11) hx hb hts inX0 hown hK hP 0 rfl rfl 6 (by decide) k_65 (fun _ h9 => h9) rfl dX0_stepDelta_43 ?_
  refine lv_aload_n hx hb dX0_stepDelta_46 rfl (lv_at hl 3 rfl) ?_
  refine lv_iload_n hx hb dX0_stepDelta_47 rfl (lv_at hl 0 rfl) ?_
  refine lv_iload_n hx hb dX0_stepDelta_48 rfl (lv_at hl 1 rfl) ?_
  refine lv_ineg hx hb dX0_stepDelta_49 ?_
  refine kCallI (As := [.int x_2, .int (-x_1)]) (wc := [(q, .inr (0, [.ref ro, .ref pa, .int kd, .int ds, .int en, .int pl, .int (nI h), .int gv, .int rp, .int mk, .int la]))]) (wr := [(ro, .inr (1, [.ref rb, .int sz])), (rb, .inl (cI, 64, .inl g)), (pa, .inl (cI, 32, .inl pf))]) (ws' := [(q, .inr (0, [.ref ro, .ref pa, .int kd, .int ds, .int en, .int pl, .int (nI h), .int gv, .int rp, .int mk, .int la])), (ro, .inr (1, [.ref rb, .int sz])), (rb, .inl (cI, 64, .inl g)), (pa, .inl (cI, 32, .inl pf))]) (ci := 0) (C := RX0) ⟨hx, hb, hml, hown, hts⟩ (c_X0_moved l D cI cF cJ q ro pa kd ds en pl (nI h) gv rp mk la x_2 (-x_1) ) (cwV 2 hts gX0_stepDelta_X0_moved rfl rfl rfl (by decide +kernel) ⟨Nat.le_of_ble_eq_true rfl, Nat.le_of_ble_eq_true rfl⟩) hK hP hD hS hA [0] [1, 2, 3] [3, 0, 1, 2] rfl rfl rfl rfl (by decide) rfl rfl rfl rfl rfl hl.1 (Nat.le_of_ble_eq_true rfl) ⟨Nat.zero_le _, Nat.zero_le _⟩ dX0_stepDelta_50 (fun H locs hP hD hS => ?_) rfl
  refine kCallV (As := [.int (nI h), .int (cMd en x_2 (-x_1))]) (wc := [(ro, .inr (1, [.ref rb, .int sz])), (rb, .inl (cI, 64, .inl g))]) (wr := [(q, .inr (0, [.ref ro, .ref pa, .int kd, .int ds, .int en, .int pl, .int (nI h), .int gv, .int rp, .int mk, .int la])), (pa, .inl (cI, 32, .inl pf))]) (ws' := [(q, .inr (0, [.ref ro, .ref pa, .int kd, .int ds, .int en, .int pl, .int (nI h), .int gv, .int rp, .int mk, .int la])), (ro, .inr (1, [.ref rb, .int sz])), (rb, .inl (cI, 64, .inl (upd g h ((cMd en x_2 (-x_1)) &&& 255)))), (pa, .inl (cI, 32, .inl pf))]) (ci := 1) (C := RX1) ⟨hx, hb, hml, hown, hts⟩ (c_X1_set l D cI cF cJ ro rb 64 h g sz (cMd en x_2 (-x_1)) (by omega) (by omega)) (cwV 2 hts gX0_stepDelta_X1_set rfl rfl rfl (by decide +kernel) ⟨Nat.le_of_ble_eq_true rfl, Nat.le_of_ble_eq_true rfl⟩) hK hP hD hS hA [1, 2] [0, 3] [0, 2, 3, 1] rfl rfl rfl rfl (by decide) rfl rfl rfl rfl rfl hl.1 (Nat.le_of_ble_eq_true rfl) ⟨Nat.zero_le _, Nat.zero_le _⟩ dX0_stepDelta_53 (fun H locs hP hD hS => ?_) rfl
  refine lv_aload_n hx hb dX0_stepDelta_56 rfl (lv_at hl 3 rfl) ?_
  refine va_get (D := D) (ci := 0) (v := .ref pa) (C := RX0) (T := TX0) (N := 11) hx hb hts inX0 hown hK hP 0 rfl rfl 1 (by decide) k_20 (fun _ h9 => h9) rfl dX0_stepDelta_57 ?_
  refine lv_iload_n hx hb dX0_stepDelta_60 rfl (lv_at hl 2 rfl) ?_
  refine lv_aload_n hx hb dX0_stepDelta_61 rfl (lv_at hl 3 rfl) ?_
  refine va_get (D := D) (ci := 0) (v := .int en) (C := RX0) (T := TX0) (N := 11) hx hb hts inX0 hown hK hP 0 rfl rfl 4 (by decide) k_38 (fun _ h9 => h9) rfl dX0_stepDelta_62 ?_
  refine lv_if_eq (tgt := 72) hx hb dX0_stepDelta_65 (by decide) (fun c_3 => ?_) (fun c_3 => ?_)
  · refine lv_aload_n hx hb dX0_stepDelta_72 rfl (lv_at hl 3 rfl) ?_
    refine va_get (D := D) (ci := 0) (v := .ref ro) (C := RX0) (T := TX0) (N := 11) hx hb hts inX0 hown hK hP 0 rfl rfl 0 (by decide) k_14 (fun _ h9 => h9) rfl dX0_stepDelta_73 ?_
    refine lv_aload_n hx hb dX0_stepDelta_76 rfl (lv_at hl 3 rfl) ?_
    refine va_get (D := D) (ci := 0) (v := .int (nI h)) (C := RX0) (T := TX0) (N := 11) hx hb hts inX0 hown hK hP 0 rfl rfl 6 (by decide) k_65 (fun _ h9 => h9) rfl dX0_stepDelta_77 ?_
    refine kCallI (As := [.int (nI h)]) (wc := [(ro, .inr (1, [.ref rb, .int sz])), (rb, .inl (cI, 64, .inl (upd g h ((cMd en x_2 (-x_1)) &&& 255))))]) (wr := [(q, .inr (0, [.ref ro, .ref pa, .int kd, .int ds, .int en, .int pl, .int (nI h), .int gv, .int rp, .int mk, .int la])), (pa, .inl (cI, 32, .inl pf))]) (ws' := [(q, .inr (0, [.ref ro, .ref pa, .int kd, .int ds, .int en, .int pl, .int (nI h), .int gv, .int rp, .int mk, .int la])), (ro, .inr (1, [.ref rb, .int sz])), (rb, .inl (cI, 64, .inl (upd g h ((cMd en x_2 (-x_1)) &&& 255)))), (pa, .inl (cI, 32, .inl pf))]) (ci := 1) (C := RX1) ⟨hx, hb, hml, hown, hts⟩ (c_X1_at l D cI cF cJ ro rb 64 h (upd g h ((cMd en x_2 (-x_1)) &&& 255)) sz (by omega) (by omega)) (cwV 1 hts gX0_stepDelta_X1_at rfl rfl rfl (by decide +kernel) ⟨Nat.le_of_ble_eq_true rfl, Nat.le_of_ble_eq_true rfl⟩) hK hP hD hS hA [1, 2] [0, 3] [0, 2, 3, 1] rfl rfl rfl rfl (by decide) rfl rfl rfl rfl rfl hl.1 (Nat.le_of_ble_eq_true rfl) ⟨Nat.zero_le _, Nat.zero_le _⟩ dX0_stepDelta_80 (fun H locs hP hD hS => ?_) rfl
    refine kIast (k := (b5 pl)) (ws' := [(q, .inr (0, [.ref ro, .ref pa, .int kd, .int ds, .int en, .int pl, .int (nI h), .int gv, .int rp, .int mk, .int la])), (ro, .inr (1, [.ref rb, .int sz])), (rb, .inl (cI, 64, .inl (upd g h ((cMd en x_2 (-x_1)) &&& 255)))), (pa, .inl (cI, 32, .inl (upd pf (b5 pl) ((upd g h ((cMd en x_2 (-x_1)) &&& 255)) h))))]) hx hb hK hP hD hS 3 0 rfl rfl (rfl) (b5_lt _) (by omega) rfl dX0_stepDelta_83 (fun H locs hP hD hS => ?_)
    refine lv_iconst (v := 1) hx hb dX0_stepDelta_84 (by decide) ?_
    subst e_2
    subst e_1
    have e9 : cDelta en pl ds h g pf = (1, (upd g h ((cMd en (g h) (-(pf (b5 (pl - ds))))) &&& 255)), (upd pf (b5 pl) ((upd g h ((cMd en (g h) (-(pf (b5 (pl - ds))))) &&& 255)) h))) := if_pos c_3
    exact hret _ _ _ _ _ dX0_stepDelta_85 (by rw [e9]) (by rw [e9]; exact hP) (by rw [e9]; exact hD) hS
  · refine lv_iload_n hx hb dX0_stepDelta_68 rfl (lv_at hl 0 rfl) ?_
    refine lv_goto (tgt := 83) hx hb dX0_stepDelta_69 (by decide) ?_
    refine kIast (k := (b5 pl)) (ws' := [(q, .inr (0, [.ref ro, .ref pa, .int kd, .int ds, .int en, .int pl, .int (nI h), .int gv, .int rp, .int mk, .int la])), (ro, .inr (1, [.ref rb, .int sz])), (rb, .inl (cI, 64, .inl (upd g h ((cMd en x_2 (-x_1)) &&& 255)))), (pa, .inl (cI, 32, .inl (upd pf (b5 pl) x_2)))]) hx hb hK hP hD hS 3 0 rfl rfl (rfl) (b5_lt _) (by omega) rfl dX0_stepDelta_83 (fun H locs hP hD hS => ?_)
    refine lv_iconst (v := 1) hx hb dX0_stepDelta_84 (by decide) ?_
    subst e_2
    subst e_1
    have e9 : cDelta en pl ds h g pf = (1, upd g h ((cMd en (g h) (-(pf (b5 (pl - ds))))) &&& 255), (upd pf (b5 pl) (g h))) := if_neg c_3
    exact hret _ _ _ _ _ dX0_stepDelta_85 (by rw [e9]) (by rw [e9]; exact hP) (by rw [e9]; exact hD) hS

/-- the mask, some places on -/
def cAgeN (mk : Int32) : Nat → Int32
  | 0 => mk
  | n + 1 => ((cAgeN mk n) &&& 119) * 2
def cAge (mk d : Int32) : Int32 := if d < 0 then 0 else if d ≤ 5 then cAgeN mk d.toNatClampNeg else 0

set_option maxHeartbeats 4000000 in
set_option maxRecDepth 100000 in
/-- Filter.ageMask() -/
theorem c_X0_ageMask (l : Launch) (D : va_G) (cI cF cJ : ClassId) (q ro pa : Nat) (kd ds en pl he gv rp mk la : Int32)  : kV l yX0_ageMask wsX0_ageMask ({ frames := 0, cells := 0, slots := 0, locals := 0 }) D (kTy cI cF cJ) [.ref q] [(q, .inr (0, [.ref ro, .ref pa, .int kd, .int ds, .int en, .int pl, .int he, .int gv, .int rp, .int mk, .int la]))] [(q, .inr (0, [.ref ro, .ref pa, .int kd, .int ds, .int en, .int pl, .int he, .int gv, .int rp, .int (cAge mk (pl - la)), .int pl]))] := by
  refine kV_of (cc := cX0_ageMask) (nL := 3) (own := RX0) (lv := [(0, .ref q)]) (by decide) rfl rfl (Nat.le_of_ble_eq_true rfl) rfl ?_
  intro p e s m args below meth c A ls Q C hA hK hP hD hS hl hret
  obtain ⟨hx, hb, hr, hml, hown, hts, hlocks⟩ := C
  have k_42 := hts (.fieldLink RX0 42 "BranchFilters$Filter" "place" "I") (by decide +kernel)
  have k_51 := hts (.fieldLink RX0 51 "BranchFilters$Filter" "mask" "I") (by decide +kernel)
  have k_54 := hts (.fieldLink RX0 54 "BranchFilters$Filter" "last" "I") (by decide +kernel)
  have inX0 : ∀ w ∈ wsX00, w ∈ wsX0_ageMask := by decide +kernel
  refine lv_aload_n hx hb dX0_ageMask_0 rfl (lv_at hl 0 rfl) ?_
  refine va_get (D := D) (ci := 0) (v := .int pl) (C := RX0) (T := TX0) (N := 11) hx hb hts inX0 hown hK hP 0 rfl rfl 5 (by decide) k_42 (fun _ h9 => h9) rfl dX0_ageMask_1 ?_
  refine lv_aload_n hx hb dX0_ageMask_4 rfl (lv_at hl 0 rfl) ?_
  refine va_get (D := D) (ci := 0) (v := .int la) (C := RX0) (T := TX0) (N := 11) hx hb hts inX0 hown hK hP 0 rfl rfl 10 (by decide) k_54 (fun _ h9 => h9) rfl dX0_ageMask_5 ?_
  refine lv_isub hx hb dX0_ageMask_8 ?_
  refine lv_topi (fun x_1 e_1 => ?_)
  refine lv_istore_n (lv' := [(1, .int x_1), (0, .ref q)]) hx hb dX0_ageMask_9 rfl hl (by decide) rfl (fun ls hl => ?_)
  refine lv_aload_n hx hb dX0_ageMask_10 rfl (lv_at hl 1 rfl) ?_
  refine lv_aload_n hx hb dX0_ageMask_11 rfl (lv_at hl 1 rfl) ?_
  refine va_get (D := D) (ci := 0) (v := .int pl) (C := RX0) (T := TX0) (N := 11) hx hb hts inX0 hown hK hP 0 rfl rfl 5 (by decide) k_42 (fun _ h9 => h9) rfl dX0_ageMask_12 ?_
  refine kPut (D := D) (ci := 0) (v := .int pl) (ty := .int) (C := RX0) (T := TX0) (N := 11) (ws' := [(q, .inr (0, [.ref ro, .ref pa, .int kd, .int ds, .int en, .int pl, .int he, .int gv, .int rp, .int mk, .int pl]))]) hx hb hts inX0 tyX0 tyX0_ok nmX0 hown hK hP hD hS 0 rfl rfl 10 (by decide) k_54 rfl (by decide +kernel) (rfl) (by first | rfl | decide) (Nat.le_of_ble_eq_true rfl) rfl dX0_ageMask_15 (fun H locs hP hD hS => ?_)
  refine lv_iload_n hx hb dX0_ageMask_18 rfl (lv_at hl 0 rfl) ?_
  refine lv_if_lt (tgt := 27) hx hb dX0_ageMask_19 (by decide) (fun c_2 => ?_) (fun c_2 => ?_)
  · refine lv_aload_n hx hb dX0_ageMask_27 rfl (lv_at hl 1 rfl) ?_
    refine lv_iconst (v := 0) hx hb dX0_ageMask_28 (by decide) ?_
    refine kPut (D := D) (ci := 0) (v := .int 0) (ty := .int) (C := RX0) (T := TX0) (N := 11) (ws' := [(q, .inr (0, [.ref ro, .ref pa, .int kd, .int ds, .int en, .int pl, .int he, .int gv, .int rp, .int 0, .int pl]))]) hx hb hts inX0 tyX0 tyX0_ok nmX0 hown hK hP hD hS 0 rfl rfl 9 (by decide) k_51 rfl (by decide +kernel) (rfl) (by first | rfl | decide) (Nat.le_of_ble_eq_true rfl) rfl dX0_ageMask_29 (fun H locs hP hD hS => ?_)
    have e9 : cAge mk (pl - la) = 0 := by rw [← e_1]; exact if_pos c_2
    exact hret _ _ _ _ dX0_ageMask_32 (by rw [e9]; exact hP) (by rw [e9]; exact hD) hS
  · refine lv_iload_n hx hb dX0_ageMask_22 rfl (lv_at hl 0 rfl) ?_
    refine lv_iconst (v := 5) hx hb dX0_ageMask_23 (by decide) ?_
    refine lv_icmp_le (tgt := 33) hx hb dX0_ageMask_24 (by decide) (fun c_3 => ?_) (fun c_3 => ?_)
    · obtain ⟨dn, hdn, edn⟩ := nI_of c_2
      subst edn
      have hd5 : dn ≤ 5 := (kLe (a := dn) (b := 5) rfl rfl (by omega) (by omega)).mp c_3
      have loop : ∀ (K : Nat) (j : Nat) (hj : j + K = dn) (H : Heap) (locs : List Loc) (ls : Array Slot), va_P D vwCl [(q, .inr (0, [.ref ro, .ref pa, .int kd, .int ds, .int en, .int pl, .int he, .int gv, .int rp, .int (cAgeN mk j), .int pl]))] H → va_D A [(q, .inr (0, [.ref ro, .ref pa, .int kd, .int ds, .int en, .int pl, .int he, .int gv, .int rp, .int (cAgeN mk j), .int pl]))] → va_S A s.heap H locs → lv_has ls 3 [(0, .ref q), (1, .int (nI dn)), (2, .int (nI j))] → W p l e ({ frames := 0, cells := 0, slots := 0, locals := 0 }) s m args below meth c H locs 0 0 Q (F0 m 35 ls []) := by
        intro K
        induction K with
        | zero =>
          intro j hj H locs ls hP hD hS hl
          obtain rfl : j = dn := by omega
          refine lv_iload_n hx hb dX0_ageMask_35 rfl (lv_at hl 2 rfl) ?_
          refine lv_iload_n hx hb dX0_ageMask_36 rfl (lv_at hl 1 rfl) ?_
          refine lv_icmp_ge (tgt := 59) hx hb dX0_ageMask_37 (by decide) (fun c_4 => ?_) (fun c_4 => ?_)
          · have e9 : cAge mk (pl - la) = cAgeN mk j := by rw [← e_1]; refine (if_neg c_2).trans ((if_pos c_3).trans ?_); rw [nI_clamp (by omega)]
            exact hret _ _ _ _ dX0_ageMask_59 (by rw [e9]; exact hP) (by rw [e9]; exact hD) hS
          · exact absurd ((kLe rfl rfl (by omega) (by omega)).mpr (Nat.le_refl _)) c_4
        | succ K ih =>
          intro j hj H locs ls hP hD hS hl
          refine lv_iload_n hx hb dX0_ageMask_35 rfl (lv_at hl 2 rfl) ?_
          refine lv_iload_n hx hb dX0_ageMask_36 rfl (lv_at hl 1 rfl) ?_
          refine lv_icmp_ge (tgt := 59) hx hb dX0_ageMask_37 (by decide) (fun c_5 => ?_) (fun c_5 => ?_)
          · exact absurd ((kLe rfl rfl (by omega) (by omega)).mp c_5) (by omega)
          · refine lv_aload_n hx hb dX0_ageMask_40 rfl (lv_at hl 0 rfl) ?_
            refine lv_aload_n hx hb dX0_ageMask_41 rfl (lv_at hl 0 rfl) ?_
            refine va_get (D := D) (ci := 0) (v := .int (cAgeN mk j)) (C := RX0) (T := TX0) (N := 11) hx hb hts inX0 hown hK hP 0 rfl rfl 9 (by decide) k_51 (fun _ h9 => h9) rfl dX0_ageMask_42 ?_
            refine lv_bipush (v := 119) hx hb dX0_ageMask_45 (by decide) ?_
            refine lv_iand hx hb dX0_ageMask_47 ?_
            refine lv_iconst (v := 2) hx hb dX0_ageMask_48 (by decide) ?_
            refine lv_imul hx hb dX0_ageMask_49 ?_
            refine kPut (D := D) (ci := 0) (v := .int (((cAgeN mk j) &&& 119) * 2)) (ty := .int) (C := RX0) (T := TX0) (N := 11) (ws' := [(q, .inr (0, [.ref ro, .ref pa, .int kd, .int ds, .int en, .int pl, .int he, .int gv, .int rp, .int (((cAgeN mk j) &&& 119) * 2), .int pl]))]) hx hb hts inX0 tyX0 tyX0_ok nmX0 hown hK hP hD hS 0 rfl rfl 9 (by decide) k_51 rfl (by decide +kernel) (rfl) (by first | rfl | decide) (Nat.le_of_ble_eq_true rfl) rfl dX0_ageMask_50 (fun H locs hP hD hS => ?_)
            refine lv_iinc (v := nI (j + 1)) (lv' := [(2, .int (nI (j + 1))), (0, .ref q), (1, .int (nI dn))]) hx hb dX0_ageMask_53 hl (k := 2) rfl (nI_1 _) (by decide) rfl (fun ls hl => ?_)
            refine lv_goto (tgt := 35) hx hb dX0_ageMask_56 (by decide) ?_
            exact ih (j + 1) (by omega) _ _ _ hP hD hS (lv_sub hl [1, 2, 0] rfl)
      refine lv_iconst (v := 0) hx hb dX0_ageMask_33 (by decide) ?_
      refine lv_istore_n (lv' := [(2, .int 0), (1, .int (nI dn)), (0, .ref q)]) hx hb dX0_ageMask_34 rfl hl (by decide) rfl (fun ls hl => ?_)
      exact loop dn 0 (by omega) _ _ _ hP hD hS (lv_sub hl [2, 1, 0] rfl)
    · refine lv_aload_n hx hb dX0_ageMask_27 rfl (lv_at hl 1 rfl) ?_
      refine lv_iconst (v := 0) hx hb dX0_ageMask_28 (by decide) ?_
      refine kPut (D := D) (ci := 0) (v := .int 0) (ty := .int) (C := RX0) (T := TX0) (N := 11) (ws' := [(q, .inr (0, [.ref ro, .ref pa, .int kd, .int ds, .int en, .int pl, .int he, .int gv, .int rp, .int 0, .int pl]))]) hx hb hts inX0 tyX0 tyX0_ok nmX0 hown hK hP hD hS 0 rfl rfl 9 (by decide) k_51 rfl (by decide +kernel) (rfl) (by first | rfl | decide) (Nat.le_of_ble_eq_true rfl) rfl dX0_ageMask_29 (fun H locs hP hD hS => ?_)
      have e9 : cAge mk (pl - la) = 0 := by rw [← e_1]; exact (if_neg c_2).trans (if_neg c_3)
      exact hret _ _ _ _ dX0_ageMask_32 (by rw [e9]; exact hP) (by rw [e9]; exact hD) hS

def cKp (mk : Int32) : Int32 := if 2 ≤ mk / 2 then (if 4 ≤ mk / 2 then 3 else 2) else 1
def cTl (en y be tr : Int32) : Nat → Int32 → Int32
  | 0, t => t
  | k + 1, t => if cSg ((kU t (be - 8)) &&& 255) = 0 then t else cTl en y be tr k (cMd en (t ^^^ tr) y)
def cXt (en mk x y : Int32) : Int32 := if mk = 0 then cMd en x y else cTl en y (32 - 8 * cKp mk) ((1 <<< ((32 - 8 * cKp mk) &&& 31)) - 1) 1000 (cMd en x y)

set_option maxHeartbeats 4000000 in
set_option maxRecDepth 100000 in
/-- Filter.x86Target(x, y) -/
theorem c_X0_x86Target (l : Launch) (D : va_G) (cI cF cJ : ClassId) (q ro pa : Nat) (kd ds en pl he gv rp mk la : Int32) (x y : Int32)  : kI l yX0_x86Target wsX0_x86Target ({ frames := 1, cells := 0, slots := 0, locals := 22 }) D (kTy cI cF cJ) [.ref q, .int x, .int y] [(q, .inr (0, [.ref ro, .ref pa, .int kd, .int ds, .int en, .int pl, .int he, .int gv, .int rp, .int mk, .int la]))] [(q, .inr (0, [.ref ro, .ref pa, .int kd, .int ds, .int en, .int pl, .int he, .int gv, .int rp, .int mk, .int la]))] (cXt en mk x y) := by
  refine kI_of (cc := cX0_x86Target) (nL := 9) (ty := .int) (own := RX0) (lv := [(0, .ref q), (1, .int x), (2, .int y)]) (by decide) rfl rfl (Nat.le_of_ble_eq_true rfl) rfl (rfl) ?_
  intro p e s m args below meth c A ls Q C hA hK hP hD hS hl hret
  obtain ⟨hx, hb, hr, hml, hown, hts, hlocks⟩ := C
  have k_51 := hts (.fieldLink RX0 51 "BranchFilters$Filter" "mask" "I") (by decide +kernel)
  have inX0 : ∀ w ∈ wsX00, w ∈ wsX0_x86Target := by decide +kernel
  refine lv_aload_n hx hb dX0_x86Target_0 rfl (lv_at hl 0 rfl) ?_
  refine lv_iload_n hx hb dX0_x86Target_1 rfl (lv_at hl 1 rfl) ?_
  refine lv_iload_n hx hb dX0_x86Target_2 rfl (lv_at hl 2 rfl) ?_
  refine kCallI (As := [.int x, .int y]) (wc := [(q, .inr (0, [.ref ro, .ref pa, .int kd, .int ds, .int en, .int pl, .int he, .int gv, .int rp, .int mk, .int la]))]) (wr := []) (ws' := [(q, .inr (0, [.ref ro, .ref pa, .int kd, .int ds, .int en, .int pl, .int he, .int gv, .int rp, .int mk, .int la]))]) (ci := 0) (C := RX0) ⟨hx, hb, hml, hown, hts⟩ (c_X0_moved l D cI cF cJ q ro pa kd ds en pl he gv rp mk la x y ) (cwV 2 hts gX0_x86Target_X0_moved rfl rfl rfl (by decide +kernel) ⟨Nat.le_of_ble_eq_true rfl, Nat.le_of_ble_eq_true rfl⟩) hK hP hD hS hA [0] [] [0] rfl rfl rfl rfl (by decide) rfl rfl rfl rfl rfl hl.1 (Nat.le_of_ble_eq_true rfl) ⟨Nat.zero_le _, Nat.zero_le _⟩ dX0_x86Target_3 (fun H locs hP hD hS => ?_) rfl
  refine lv_topi (fun x_1 e_1 => ?_)
  refine lv_istore_n (lv' := [(3, .int x_1), (0, .ref q), (1, .int x), (2, .int y)]) hx hb dX0_x86Target_6 rfl hl (by decide) rfl (fun ls hl => ?_)
  refine lv_aload_n hx hb dX0_x86Target_7 rfl (lv_at hl 1 rfl) ?_
  refine va_get (D := D) (ci := 0) (v := .int mk) (C := RX0) (T := TX0) (N := 11) hx hb hts inX0 hown hK hP 0 rfl rfl 9 (by decide) k_51 (fun _ h9 => h9) rfl dX0_x86Target_8 ?_
  refine lv_if_ne (tgt := 16) hx hb dX0_x86Target_11 (by decide) (fun c_2 => ?_) (fun c_2 => ?_)
  · refine lv_aload_n hx hb dX0_x86Target_16 rfl (lv_at hl 1 rfl) ?_
    refine va_get (D := D) (ci := 0) (v := .int mk) (C := RX0) (T := TX0) (N := 11) hx hb hts inX0 hown hK hP 0 rfl rfl 9 (by decide) k_51 (fun _ h9 => h9) rfl dX0_x86Target_17 ?_
    refine lv_iconst (v := 2) hx hb dX0_x86Target_20 (by decide) ?_
    refine lv_idiv hx hb dX0_x86Target_21 (by decide) ?_
    refine lv_topi (fun x_3 e_3 => ?_)
    refine lv_istore (lv' := [(4, .int x_3), (3, .int x_1), (0, .ref q), (1, .int x), (2, .int y)]) hx hb dX0_x86Target_22 hl (by decide) rfl (fun ls hl => ?_)
    subst e_3
    have J45 : ∀ (v : Int32), v = cKp mk → W p l e ({ frames := 1, cells := 0, slots := 0, locals := 22 }) s m args below meth c H locs 0 0 Q (F0 m 45 ls [.int v]) := by
      intro v e_v
      subst e_v
      refine lv_topi (fun x_4 e_4 => ?_)
      refine lv_istore (lv' := [(5, .int x_4), (4, .int (mk / 2)), (3, .int x_1), (0, .ref q), (1, .int x), (2, .int y)]) hx hb dX0_x86Target_45 hl (by decide) rfl (fun ls hl => ?_)
      refine lv_bipush (v := 32) hx hb dX0_x86Target_47 (by decide) ?_
      refine lv_bipush (v := 8) hx hb dX0_x86Target_49 (by decide) ?_
      refine lv_iload hx hb dX0_x86Target_51 (lv_at hl 0 rfl) ?_
      refine lv_imul hx hb dX0_x86Target_53 ?_
      refine lv_isub hx hb dX0_x86Target_54 ?_
      refine lv_topi (fun x_5 e_5 => ?_)
      refine lv_istore (lv' := [(6, .int x_5), (5, .int x_4), (4, .int (mk / 2)), (3, .int x_1), (0, .ref q), (1, .int x), (2, .int y)]) hx hb dX0_x86Target_55 hl (by decide) rfl (fun ls hl => ?_)
      refine lv_iconst (v := 1) hx hb dX0_x86Target_57 (by decide) ?_
      refine lv_iload hx hb dX0_x86Target_58 (lv_at hl 0 rfl) ?_
      refine lv_ishl hx hb dX0_x86Target_60 ?_
      refine lv_iconst (v := 1) hx hb dX0_x86Target_61 (by decide) ?_
      refine lv_isub hx hb dX0_x86Target_62 ?_
      refine lv_topi (fun x_6 e_6 => ?_)
      refine lv_istore (lv' := [(7, .int x_6), (6, .int x_5), (5, .int x_4), (4, .int (mk / 2)), (3, .int x_1), (0, .ref q), (1, .int x), (2, .int y)]) hx hb dX0_x86Target_63 hl (by decide) rfl (fun ls hl => ?_)
      refine lv_iconst (v := 0) hx hb dX0_x86Target_65 (by decide) ?_
      refine lv_istore (lv' := [(8, .int 0), (7, .int x_6), (6, .int x_5), (5, .int x_4), (4, .int (mk / 2)), (3, .int x_1), (0, .ref q), (1, .int x), (2, .int y)]) hx hb dX0_x86Target_66 hl (by decide) rfl (fun ls hl => ?_)
      have loop : ∀ (K : Nat) (j : Nat) (t : Int32) (hj : j + K = 1000) (ht : cTl en y x_5 x_6 K t = cTl en y x_5 x_6 1000 x_1) (H : Heap) (locs : List Loc) (ls : Array Slot), va_P D vwCl [(q, .inr (0, [.ref ro, .ref pa, .int kd, .int ds, .int en, .int pl, .int he, .int gv, .int rp, .int mk, .int la]))] H → va_D A [(q, .inr (0, [.ref ro, .ref pa, .int kd, .int ds, .int en, .int pl, .int he, .int gv, .int rp, .int mk, .int la]))] → va_S A s.heap H locs → lv_has ls 9 [(0, .ref q), (2, .int y), (3, .int t), (6, .int x_5), (7, .int x_6), (8, .int (nI j))] → W p l e ({ frames := 1, cells := 0, slots := 0, locals := 22 }) s m args below meth c H locs 0 0 Q (F0 m 68 ls []) := by
        intro K
        induction K with
        | zero =>
          intro j t hj ht H locs ls hP hD hS hl
          obtain rfl : j = 1000 := by omega
          refine lv_iload hx hb dX0_x86Target_68 (lv_at hl 5 rfl) ?_
          refine lv_sipush (v := 1000) hx hb dX0_x86Target_70 (by decide) ?_
          refine lv_icmp_ge (tgt := 112) hx hb dX0_x86Target_73 (by decide) (fun c_7 => ?_) (fun c_7 => ?_)
          · refine lv_iload_n hx hb dX0_x86Target_112 rfl (lv_at hl 2 rfl) ?_
            have e9 : t = cXt en mk x y := by
              have h8 : t = cTl en y x_5 x_6 1000 x_1 := by
                rw [← ht]; rfl
              rw [h8]
              subst e_6
              subst e_5
              subst e_4
              subst e_1
              exact (if_neg c_2).symm
            exact hret _ _ _ _ _ dX0_x86Target_113 e9 hP hD hS
          · exact absurd ((kLe (a := 1000) (b := 1000) rfl rfl (by omega) (by omega)).mpr (by omega)) c_7
        | succ K ih =>
          intro j t hj ht H locs ls hP hD hS hl
          refine lv_iload hx hb dX0_x86Target_68 (lv_at hl 5 rfl) ?_
          refine lv_sipush (v := 1000) hx hb dX0_x86Target_70 (by decide) ?_
          refine lv_icmp_ge (tgt := 112) hx hb dX0_x86Target_73 (by decide) (fun c_8 => ?_) (fun c_8 => ?_)
          · exact absurd ((kLe (a := 1000) (b := j) rfl rfl (by omega) (by omega)).mp c_8) (by omega)
          · refine lv_iload_n hx hb dX0_x86Target_76 rfl (lv_at hl 2 rfl) ?_
            refine lv_iload hx hb dX0_x86Target_77 (lv_at hl 3 rfl) ?_
            refine lv_bipush (v := 8) hx hb dX0_x86Target_79 (by decide) ?_
            refine lv_isub hx hb dX0_x86Target_81 ?_
            refine lv_iushr (v := (kU t (x_5 - 8))) hx hb dX0_x86Target_82 rfl ?_
            refine lv_sipush (v := 255) hx hb dX0_x86Target_83 (by decide) ?_
            refine lv_iand hx hb dX0_x86Target_86 ?_
            refine kCallS (As := [.int ((kU t (x_5 - 8)) &&& 255)]) ⟨hx, hb, hml, hown, hts⟩ (c_X0_isSignByte l D cI cF cJ ((kU t (x_5 - 8)) &&& 255) ) (cwS 1 hts gX0_x86Target_X0_isSignByte rfl rfl rfl (by decide +kernel) ⟨Nat.le_of_ble_eq_true rfl, Nat.le_of_ble_eq_true rfl⟩) hK hP hD hS hA rfl hl.1 (Nat.le_of_ble_eq_true rfl) ⟨Nat.zero_le _, Nat.zero_le _⟩ dX0_x86Target_87 (fun H locs hP hD hS => ?_) rfl
            refine lv_if_ne (tgt := 96) hx hb dX0_x86Target_90 (by decide) (fun c_9 => ?_) (fun c_9 => ?_)
            · refine lv_aload_n hx hb dX0_x86Target_96 rfl (lv_at hl 0 rfl) ?_
              refine lv_iload_n hx hb dX0_x86Target_97 rfl (lv_at hl 2 rfl) ?_
              refine lv_iload hx hb dX0_x86Target_98 (lv_at hl 4 rfl) ?_
              refine lv_ixor hx hb dX0_x86Target_100 ?_
              refine lv_iload_n hx hb dX0_x86Target_101 rfl (lv_at hl 1 rfl) ?_
              refine kCallI (As := [.int (t ^^^ x_6), .int y]) (wc := [(q, .inr (0, [.ref ro, .ref pa, .int kd, .int ds, .int en, .int pl, .int he, .int gv, .int rp, .int mk, .int la]))]) (wr := []) (ws' := [(q, .inr (0, [.ref ro, .ref pa, .int kd, .int ds, .int en, .int pl, .int he, .int gv, .int rp, .int mk, .int la]))]) (ci := 0) (C := RX0) ⟨hx, hb, hml, hown, hts⟩ (c_X0_moved l D cI cF cJ q ro pa kd ds en pl he gv rp mk la (t ^^^ x_6) y ) (cwV 2 hts gX0_x86Target_X0_moved rfl rfl rfl (by decide +kernel) ⟨Nat.le_of_ble_eq_true rfl, Nat.le_of_ble_eq_true rfl⟩) hK hP hD hS hA [0] [] [0] rfl rfl rfl rfl (by decide) rfl rfl rfl rfl rfl hl.1 (Nat.le_of_ble_eq_true rfl) ⟨Nat.zero_le _, Nat.zero_le _⟩ dX0_x86Target_102 (fun H locs hP hD hS => ?_) rfl
              refine lv_topi (fun x_10 e_10 => ?_)
              refine lv_istore_n (lv' := [(3, .int x_10), (0, .ref q), (2, .int y), (6, .int x_5), (7, .int x_6), (8, .int (nI j))]) hx hb dX0_x86Target_105 rfl hl (by decide) rfl (fun ls hl => ?_)
              refine lv_iinc (v := nI (j + 1)) (lv' := [(8, .int (nI (j + 1))), (3, .int x_10), (0, .ref q), (2, .int y), (6, .int x_5), (7, .int x_6)]) hx hb dX0_x86Target_106 hl (k := 5) rfl (nI_1 _) (by decide) rfl (fun ls hl => ?_)
              refine lv_goto (tgt := 68) hx hb dX0_x86Target_109 (by decide) ?_
              exact ih (j + 1) x_10 (by omega) (by rw [← ht, e_10]; exact (if_neg c_9).symm) _ _ _ hP hD hS (lv_sub hl [2, 3, 1, 4, 5, 0] rfl)
            · refine lv_goto (tgt := 112) hx hb dX0_x86Target_93 (by decide) ?_
              refine lv_iload_n hx hb dX0_x86Target_112 rfl (lv_at hl 2 rfl) ?_
              have e9 : t = cXt en mk x y := by
                have h8 : t = cTl en y x_5 x_6 1000 x_1 := by
                  rw [← ht]; exact (if_pos c_9).symm
                rw [h8]
                subst e_6
                subst e_5
                subst e_4
                subst e_1
                exact (if_neg c_2).symm
              exact hret _ _ _ _ _ dX0_x86Target_113 e9 hP hD hS
      exact loop 1000 0 x_1 (by omega) rfl _ _ _ hP hD hS (lv_sub hl [6, 8, 5, 2, 1, 0] rfl)
    refine lv_iload hx hb dX0_x86Target_24 (lv_at hl 0 rfl) ?_
    refine lv_iconst (v := 2) hx hb dX0_x86Target_26 (by decide) ?_
    refine lv_icmp_ge (tgt := 34) hx hb dX0_x86Target_27 (by decide) (fun c_11 => ?_) (fun c_11 => ?_)
    · refine lv_iload hx hb dX0_x86Target_34 (lv_at hl 0 rfl) ?_
      refine lv_iconst (v := 4) hx hb dX0_x86Target_36 (by decide) ?_
      refine lv_icmp_ge (tgt := 44) hx hb dX0_x86Target_37 (by decide) (fun c_12 => ?_) (fun c_12 => ?_)
      · refine lv_iconst (v := 3) hx hb dX0_x86Target_44 (by decide) ?_
        exact J45 _ (((if_pos c_11).trans (if_pos c_12)).symm)
      · refine lv_iconst (v := 2) hx hb dX0_x86Target_40 (by decide) ?_
        refine lv_goto (tgt := 45) hx hb dX0_x86Target_41 (by decide) ?_
        exact J45 _ (((if_pos c_11).trans (if_neg c_12)).symm)
    · refine lv_iconst (v := 1) hx hb dX0_x86Target_30 (by decide) ?_
      refine lv_goto (tgt := 45) hx hb dX0_x86Target_31 (by decide) ?_
      exact J45 _ (((if_neg c_11).symm))
  · refine lv_iload_n hx hb dX0_x86Target_14 rfl (lv_at hl 0 rfl) ?_
    subst e_1
    exact hret _ _ _ _ _ dX0_x86Target_15 ((if_pos c_2).symm) hP hD hS

def cX86 (en : Int32) (pl : Int32) (rp : Int32) (mk : Int32) (la : Int32) (h : Nat) (g : Nat → Int32) : Int32 × Int32 × Int32 × Int32 × (Nat → Int32) := (if (g h) = 232 then (if (cSg (g (h + 4))) = 0 then (if (cSg (g (h + 4))) = 0 then (1, rp, (cAge mk (pl - la)) ||| 1, pl, g) else (1, rp, (cAge mk (pl - la)) ||| 17, pl, g)) else (if cAl (cAge mk (pl - la)) = 0 then (if (cSg (g (h + 4))) = 0 then (1, rp, (cAge mk (pl - la)) ||| 1, pl, g) else (1, rp, (cAge mk (pl - la)) ||| 17, pl, g)) else (5, rp + 1, 0, pl, cSetLo g (h + 1) (((cXt en (cAge mk (pl - la)) (cLo g (h + 1)) (pl + 5)) <<< ((7 : Int32) &&& 31)) >>> ((7 : Int32) &&& 31))))) else (if (g h) = 233 then (if (cSg (g (h + 4))) = 0 then (if (cSg (g (h + 4))) = 0 then (1, rp, (cAge mk (pl - la)) ||| 1, pl, g) else (1, rp, (cAge mk (pl - la)) ||| 17, pl, g)) else (if cAl (cAge mk (pl - la)) = 0 then (if (cSg (g (h + 4))) = 0 then (1, rp, (cAge mk (pl - la)) ||| 1, pl, g) else (1, rp, (cAge mk (pl - la)) ||| 17, pl, g)) else (5, rp + 1, 0, pl, cSetLo g (h + 1) (((cXt en (cAge mk (pl - la)) (cLo g (h + 1)) (pl + 5)) <<< ((7 : Int32) &&& 31)) >>> ((7 : Int32) &&& 31))))) else (1, rp, mk, la, g)))

set_option maxHeartbeats 4000000 in
set_option maxRecDepth 100000 in
/-- Filter.stepX86() -/
theorem c_X0_stepX86 (l : Launch) (D : va_G) (cI cF cJ : ClassId) (q ro pa rb h : Nat) (kd ds en pl gv rp mk la sz : Int32) (g : Nat → Int32) (hk : h + 4 < 64) : kI l yX0_stepX86 wsX0_stepX86 ({ frames := 2, cells := 0, slots := 0, locals := 50 }) D (kTy cI cF cJ) [.ref q] [(q, .inr (0, [.ref ro, .ref pa, .int kd, .int ds, .int en, .int pl, .int (nI h), .int gv, .int rp, .int mk, .int la])), (ro, .inr (1, [.ref rb, .int sz])), (rb, .inl (cI, 64, .inl g))] [(q, .inr (0, [.ref ro, .ref pa, .int kd, .int ds, .int en, .int pl, .int (nI h), .int gv, .int ((cX86 en pl rp mk la h g).2.1), .int ((cX86 en pl rp mk la h g).2.2.1), .int ((cX86 en pl rp mk la h g).2.2.2.1)])), (ro, .inr (1, [.ref rb, .int sz])), (rb, .inl (cI, 64, .inl ((cX86 en pl rp mk la h g).2.2.2.2)))] ((cX86 en pl rp mk la h g).1) := by
  refine kI_of (cc := cX0_stepX86) (nL := 4) (ty := .int) (own := RX0) (lv := [(0, .ref q)]) (by decide) rfl rfl (Nat.le_of_ble_eq_true rfl) rfl (rfl) ?_
  intro p e s m args below meth c A ls Q C hA hK hP hD hS hl hret
  obtain ⟨hx, hb, hr, hml, hown, hts, hlocks⟩ := C
  have k_14 := hts (.fieldLink RX0 14 "BranchFilters$Filter" "held" "LBranchFilters$Row;") (by decide +kernel)
  have k_42 := hts (.fieldLink RX0 42 "BranchFilters$Filter" "place" "I") (by decide +kernel)
  have k_48 := hts (.fieldLink RX0 48 "BranchFilters$Filter" "replaced" "I") (by decide +kernel)
  have k_51 := hts (.fieldLink RX0 51 "BranchFilters$Filter" "mask" "I") (by decide +kernel)
  have k_65 := hts (.fieldLink RX0 65 "BranchFilters$Filter" "here" "I") (by decide +kernel)
  have inX0 : ∀ w ∈ wsX00, w ∈ wsX0_stepX86 := by decide +kernel
  refine lv_aload_n hx hb dX0_stepX86_0 rfl (lv_at hl 0 rfl) ?_
  refine va_get (D := D) (ci := 0) (v := .ref ro) (C := RX0) (T := TX0) (N := 11) hx hb hts inX0 hown hK hP 0 rfl rfl 0 (by decide) k_14 (fun _ h9 => h9) rfl dX0_stepX86_1 ?_
  refine lv_aload_n hx hb dX0_stepX86_4 rfl (lv_at hl 0 rfl) ?_
  refine va_get (D := D) (ci := 0) (v := .int (nI h)) (C := RX0) (T := TX0) (N := 11) hx hb hts inX0 hown hK hP 0 rfl rfl 6 (by decide) k_65 (fun _ h9 => h9) rfl dX0_stepX86_5 ?_
  refine kCallI (As := [.int (nI h)]) (wc := [(ro, .inr (1, [.ref rb, .int sz])), (rb, .inl (cI, 64, .inl g))]) (wr := [(q, .inr (0, [.ref ro, .ref pa, .int kd, .int ds, .int en, .int pl, .int (nI h), .int gv, .int rp, .int mk, .int la]))]) (ws' := [(q, .inr (0, [.ref ro, .ref pa, .int kd, .int ds, .int en, .int pl, .int (nI h), .int gv, .int rp, .int mk, .int la])), (ro, .inr (1, [.ref rb, .int sz])), (rb, .inl (cI, 64, .inl g))]) (ci := 1) (C := RX1) ⟨hx, hb, hml, hown, hts⟩ (c_X1_at l D cI cF cJ ro rb 64 h g sz (by omega) (by omega)) (cwV 1 hts gX0_stepX86_X1_at rfl rfl rfl (by decide +kernel) ⟨Nat.le_of_ble_eq_true rfl, Nat.le_of_ble_eq_true rfl⟩) hK hP hD hS hA [1, 2] [0] [0, 1, 2] rfl rfl rfl rfl (by decide) rfl rfl rfl rfl rfl hl.1 (Nat.le_of_ble_eq_true rfl) ⟨Nat.zero_le _, Nat.zero_le _⟩ dX0_stepX86_8 (fun H locs hP hD hS => ?_) rfl
  refine lv_topi (fun x_1 e_1 => ?_)
  refine lv_istore_n (lv' := [(1, .int x_1), (0, .ref q)]) hx hb dX0_stepX86_11 rfl hl (by decide) rfl (fun ls hl => ?_)
  refine lv_iload_n hx hb dX0_stepX86_12 rfl (lv_at hl 0 rfl) ?_
  refine lv_sipush (v := 232) hx hb dX0_stepX86_13 (by decide) ?_
  refine lv_icmp_eq (tgt := 28) hx hb dX0_stepX86_16 (by decide) (fun c_2 => ?_) (fun c_2 => ?_)
  · refine lv_aload_n hx hb dX0_stepX86_28 rfl (lv_at hl 1 rfl) ?_
    refine kCallV (As := []) (wc := [(q, .inr (0, [.ref ro, .ref pa, .int kd, .int ds, .int en, .int pl, .int (nI h), .int gv, .int rp, .int mk, .int la]))]) (wr := [(ro, .inr (1, [.ref rb, .int sz])), (rb, .inl (cI, 64, .inl g))]) (ws' := [(q, .inr (0, [.ref ro, .ref pa, .int kd, .int ds, .int en, .int pl, .int (nI h), .int gv, .int rp, .int (cAge mk (pl - la)), .int pl])), (ro, .inr (1, [.ref rb, .int sz])), (rb, .inl (cI, 64, .inl g))]) (ci := 0) (C := RX0) ⟨hx, hb, hml, hown, hts⟩ (c_X0_ageMask l D cI cF cJ q ro pa kd ds en pl (nI h) gv rp mk la ) (cwV 0 hts gX0_stepX86_X0_ageMask rfl rfl rfl (by decide +kernel) ⟨Nat.le_of_ble_eq_true rfl, Nat.le_of_ble_eq_true rfl⟩) hK hP hD hS hA [0] [1, 2] [2, 0, 1] rfl rfl rfl rfl (by decide) rfl rfl rfl rfl rfl hl.1 (Nat.le_of_ble_eq_true rfl) ⟨Nat.zero_le _, Nat.zero_le _⟩ dX0_stepX86_29 (fun H locs hP hD hS => ?_) rfl
    refine lv_aload_n hx hb dX0_stepX86_32 rfl (lv_at hl 1 rfl) ?_
    refine va_get (D := D) (ci := 0) (v := .ref ro) (C := RX0) (T := TX0) (N := 11) hx hb hts inX0 hown hK hP 0 rfl rfl 0 (by decide) k_14 (fun _ h9 => h9) rfl dX0_stepX86_33 ?_
    refine lv_aload_n hx hb dX0_stepX86_36 rfl (lv_at hl 1 rfl) ?_
    refine va_get (D := D) (ci := 0) (v := .int (nI h)) (C := RX0) (T := TX0) (N := 11) hx hb hts inX0 hown hK hP 0 rfl rfl 6 (by decide) k_65 (fun _ h9 => h9) rfl dX0_stepX86_37 ?_
    refine lv_iconst (v := 4) hx hb dX0_stepX86_40 (by decide) ?_
    refine lv_iadd hx hb dX0_stepX86_41 ?_
    refine kTop (y := nI (h + 4)) (nI_add _ 4) ?_
    refine kCallI (As := [.int (nI (h + 4))]) (wc := [(ro, .inr (1, [.ref rb, .int sz])), (rb, .inl (cI, 64, .inl g))]) (wr := [(q, .inr (0, [.ref ro, .ref pa, .int kd, .int ds, .int en, .int pl, .int (nI h), .int gv, .int rp, .int (cAge mk (pl - la)), .int pl]))]) (ws' := [(q, .inr (0, [.ref ro, .ref pa, .int kd, .int ds, .int en, .int pl, .int (nI h), .int gv, .int rp, .int (cAge mk (pl - la)), .int pl])), (ro, .inr (1, [.ref rb, .int sz])), (rb, .inl (cI, 64, .inl g))]) (ci := 1) (C := RX1) ⟨hx, hb, hml, hown, hts⟩ (c_X1_at l D cI cF cJ ro rb 64 (h + 4) g sz (by omega) (by omega)) (cwV 1 hts gX0_stepX86_X1_at rfl rfl rfl (by decide +kernel) ⟨Nat.le_of_ble_eq_true rfl, Nat.le_of_ble_eq_true rfl⟩) hK hP hD hS hA [1, 2] [0] [0, 1, 2] rfl rfl rfl rfl (by decide) rfl rfl rfl rfl rfl hl.1 (Nat.le_of_ble_eq_true rfl) ⟨Nat.zero_le _, Nat.zero_le _⟩ dX0_stepX86_42 (fun H locs hP hD hS => ?_) rfl
    refine kCallS (As := [.int (g (h + 4))]) ⟨hx, hb, hml, hown, hts⟩ (c_X0_isSignByte l D cI cF cJ (g (h + 4)) ) (cwS 1 hts gX0_stepX86_X0_isSignByte rfl rfl rfl (by decide +kernel) ⟨Nat.le_of_ble_eq_true rfl, Nat.le_of_ble_eq_true rfl⟩) hK hP hD hS hA rfl hl.1 (Nat.le_of_ble_eq_true rfl) ⟨Nat.zero_le _, Nat.zero_le _⟩ dX0_stepX86_45 (fun H locs hP hD hS => ?_) rfl
    refine lv_topi (fun x_3 e_3 => ?_)
    refine lv_istore_n (lv' := [(2, .int x_3), (1, .int x_1), (0, .ref q)]) hx hb dX0_stepX86_48 rfl hl (by decide) rfl (fun ls hl => ?_)
    refine lv_iload_n hx hb dX0_stepX86_49 rfl (lv_at hl 0 rfl) ?_
    refine lv_if_eq (tgt := 121) hx hb dX0_stepX86_50 (by decide) (fun c_4 => ?_) (fun c_4 => ?_)
    · refine lv_aload_n hx hb dX0_stepX86_121 rfl (lv_at hl 2 rfl) ?_
      refine lv_dup hx hb dX0_stepX86_122 rfl ?_
      refine va_get (D := D) (ci := 0) (v := .int (cAge mk (pl - la))) (C := RX0) (T := TX0) (N := 11) hx hb hts inX0 hown hK hP 0 rfl rfl 9 (by decide) k_51 (fun _ h9 => h9) rfl dX0_stepX86_123 ?_
      refine lv_iload_n hx hb dX0_stepX86_126 rfl (lv_at hl 0 rfl) ?_
      refine lv_if_eq (tgt := 135) hx hb dX0_stepX86_127 (by decide) (fun c_5 => ?_) (fun c_5 => ?_)
      · refine lv_iconst (v := 1) hx hb dX0_stepX86_135 (by decide) ?_
        refine lv_ior hx hb dX0_stepX86_136 ?_
        refine kPut (D := D) (ci := 0) (v := .int ((cAge mk (pl - la)) ||| 1)) (ty := .int) (C := RX0) (T := TX0) (N := 11) (ws' := [(q, .inr (0, [.ref ro, .ref pa, .int kd, .int ds, .int en, .int pl, .int (nI h), .int gv, .int rp, .int ((cAge mk (pl - la)) ||| 1), .int pl])), (ro, .inr (1, [.ref rb, .int sz])), (rb, .inl (cI, 64, .inl g))]) hx hb hts inX0 tyX0 tyX0_ok nmX0 hown hK hP hD hS 0 rfl rfl 9 (by decide) k_51 rfl (by decide +kernel) (rfl) (by first | rfl | decide) (Nat.le_of_ble_eq_true rfl) rfl dX0_stepX86_137 (fun H locs hP hD hS => ?_)
        refine lv_iconst (v := 1) hx hb dX0_stepX86_140 (by decide) ?_
        subst e_3
        subst e_1
        have e9 : cX86 en pl rp mk la h g = (1, rp, (cAge mk (pl - la)) ||| 1, pl, g) := (if_pos c_2).trans ((if_pos c_4).trans (if_pos c_5))
        exact hret _ _ _ _ _ dX0_stepX86_141 (by rw [e9]) (by rw [e9]; exact hP) (by rw [e9]; exact hD) hS
      · refine lv_bipush (v := 17) hx hb dX0_stepX86_130 (by decide) ?_
        refine lv_goto (tgt := 136) hx hb dX0_stepX86_132 (by decide) ?_
        refine lv_ior hx hb dX0_stepX86_136 ?_
        refine kPut (D := D) (ci := 0) (v := .int ((cAge mk (pl - la)) ||| 17)) (ty := .int) (C := RX0) (T := TX0) (N := 11) (ws' := [(q, .inr (0, [.ref ro, .ref pa, .int kd, .int ds, .int en, .int pl, .int (nI h), .int gv, .int rp, .int ((cAge mk (pl - la)) ||| 17), .int pl])), (ro, .inr (1, [.ref rb, .int sz])), (rb, .inl (cI, 64, .inl g))]) hx hb hts inX0 tyX0 tyX0_ok nmX0 hown hK hP hD hS 0 rfl rfl 9 (by decide) k_51 rfl (by decide +kernel) (rfl) (by first | rfl | decide) (Nat.le_of_ble_eq_true rfl) rfl dX0_stepX86_137 (fun H locs hP hD hS => ?_)
        refine lv_iconst (v := 1) hx hb dX0_stepX86_140 (by decide) ?_
        subst e_3
        subst e_1
        have e9 : cX86 en pl rp mk la h g = (1, rp, (cAge mk (pl - la)) ||| 17, pl, g) := (if_pos c_2).trans ((if_pos c_4).trans (if_neg c_5))
        exact hret _ _ _ _ _ dX0_stepX86_141 (by rw [e9]) (by rw [e9]; exact hP) (by rw [e9]; exact hD) hS
    · refine lv_aload_n hx hb dX0_stepX86_53 rfl (lv_at hl 2 rfl) ?_
      refine kCallI (As := []) (wc := [(q, .inr (0, [.ref ro, .ref pa, .int kd, .int ds, .int en, .int pl, .int (nI h), .int gv, .int rp, .int (cAge mk (pl - la)), .int pl]))]) (wr := [(ro, .inr (1, [.ref rb, .int sz])), (rb, .inl (cI, 64, .inl g))]) (ws' := [(q, .inr (0, [.ref ro, .ref pa, .int kd, .int ds, .int en, .int pl, .int (nI h), .int gv, .int rp, .int (cAge mk (pl - la)), .int pl])), (ro, .inr (1, [.ref rb, .int sz])), (rb, .inl (cI, 64, .inl g))]) (ci := 0) (C := RX0) ⟨hx, hb, hml, hown, hts⟩ (c_X0_maskAllows l D cI cF cJ q ro pa kd ds en pl (nI h) gv rp (cAge mk (pl - la)) pl ) (cwV 0 hts gX0_stepX86_X0_maskAllows rfl rfl rfl (by decide +kernel) ⟨Nat.le_of_ble_eq_true rfl, Nat.le_of_ble_eq_true rfl⟩) hK hP hD hS hA [0] [1, 2] [2, 0, 1] rfl rfl rfl rfl (by decide) rfl rfl rfl rfl rfl hl.1 (Nat.le_of_ble_eq_true rfl) ⟨Nat.zero_le _, Nat.zero_le _⟩ dX0_stepX86_54 (fun H locs hP hD hS => ?_) rfl
      refine lv_if_eq (tgt := 121) hx hb dX0_stepX86_57 (by decide) (fun c_6 => ?_) (fun c_6 => ?_)
      · refine lv_aload_n hx hb dX0_stepX86_121 rfl (lv_at hl 2 rfl) ?_
        refine lv_dup hx hb dX0_stepX86_122 rfl ?_
        refine va_get (D := D) (ci := 0) (v := .int (cAge mk (pl - la))) (C := RX0) (T := TX0) (N := 11) hx hb hts inX0 hown hK hP 0 rfl rfl 9 (by decide) k_51 (fun _ h9 => h9) rfl dX0_stepX86_123 ?_
        refine lv_iload_n hx hb dX0_stepX86_126 rfl (lv_at hl 0 rfl) ?_
        refine lv_if_eq (tgt := 135) hx hb dX0_stepX86_127 (by decide) (fun c_7 => ?_) (fun c_7 => ?_)
        · refine lv_iconst (v := 1) hx hb dX0_stepX86_135 (by decide) ?_
          refine lv_ior hx hb dX0_stepX86_136 ?_
          refine kPut (D := D) (ci := 0) (v := .int ((cAge mk (pl - la)) ||| 1)) (ty := .int) (C := RX0) (T := TX0) (N := 11) (ws' := [(q, .inr (0, [.ref ro, .ref pa, .int kd, .int ds, .int en, .int pl, .int (nI h), .int gv, .int rp, .int ((cAge mk (pl - la)) ||| 1), .int pl])), (ro, .inr (1, [.ref rb, .int sz])), (rb, .inl (cI, 64, .inl g))]) hx hb hts inX0 tyX0 tyX0_ok nmX0 hown hK hP hD hS 0 rfl rfl 9 (by decide) k_51 rfl (by decide +kernel) (rfl) (by first | rfl | decide) (Nat.le_of_ble_eq_true rfl) rfl dX0_stepX86_137 (fun H locs hP hD hS => ?_)
          refine lv_iconst (v := 1) hx hb dX0_stepX86_140 (by decide) ?_
          subst e_3
          subst e_1
          have e9 : cX86 en pl rp mk la h g = (1, rp, (cAge mk (pl - la)) ||| 1, pl, g) := (if_pos c_2).trans ((if_neg c_4).trans ((if_pos c_6).trans (if_pos c_7)))
          exact hret _ _ _ _ _ dX0_stepX86_141 (by rw [e9]) (by rw [e9]; exact hP) (by rw [e9]; exact hD) hS
        · refine lv_bipush (v := 17) hx hb dX0_stepX86_130 (by decide) ?_
          refine lv_goto (tgt := 136) hx hb dX0_stepX86_132 (by decide) ?_
          refine lv_ior hx hb dX0_stepX86_136 ?_
          refine kPut (D := D) (ci := 0) (v := .int ((cAge mk (pl - la)) ||| 17)) (ty := .int) (C := RX0) (T := TX0) (N := 11) (ws' := [(q, .inr (0, [.ref ro, .ref pa, .int kd, .int ds, .int en, .int pl, .int (nI h), .int gv, .int rp, .int ((cAge mk (pl - la)) ||| 17), .int pl])), (ro, .inr (1, [.ref rb, .int sz])), (rb, .inl (cI, 64, .inl g))]) hx hb hts inX0 tyX0 tyX0_ok nmX0 hown hK hP hD hS 0 rfl rfl 9 (by decide) k_51 rfl (by decide +kernel) (rfl) (by first | rfl | decide) (Nat.le_of_ble_eq_true rfl) rfl dX0_stepX86_137 (fun H locs hP hD hS => ?_)
          refine lv_iconst (v := 1) hx hb dX0_stepX86_140 (by decide) ?_
          subst e_3
          subst e_1
          have e9 : cX86 en pl rp mk la h g = (1, rp, (cAge mk (pl - la)) ||| 17, pl, g) := (if_pos c_2).trans ((if_neg c_4).trans ((if_pos c_6).trans (if_neg c_7)))
          exact hret _ _ _ _ _ dX0_stepX86_141 (by rw [e9]) (by rw [e9]; exact hP) (by rw [e9]; exact hD) hS
      · refine lv_aload_n hx hb dX0_stepX86_60 rfl (lv_at hl 2 rfl) ?_
        refine lv_aload_n hx hb dX0_stepX86_61 rfl (lv_at hl 2 rfl) ?_
        refine va_get (D := D) (ci := 0) (v := .ref ro) (C := RX0) (T := TX0) (N := 11) hx hb hts inX0 hown hK hP 0 rfl rfl 0 (by decide) k_14 (fun _ h9 => h9) rfl dX0_stepX86_62 ?_
        refine lv_aload_n hx hb dX0_stepX86_65 rfl (lv_at hl 2 rfl) ?_
        refine va_get (D := D) (ci := 0) (v := .int (nI h)) (C := RX0) (T := TX0) (N := 11) hx hb hts inX0 hown hK hP 0 rfl rfl 6 (by decide) k_65 (fun _ h9 => h9) rfl dX0_stepX86_66 ?_
        refine lv_iconst (v := 1) hx hb dX0_stepX86_69 (by decide) ?_
        refine lv_iadd hx hb dX0_stepX86_70 ?_
        refine kTop (y := nI (h + 1)) (nI_add _ 1) ?_
        refine kCallI (As := [.int (nI (h + 1))]) (wc := [(ro, .inr (1, [.ref rb, .int sz])), (rb, .inl (cI, 64, .inl g))]) (wr := [(q, .inr (0, [.ref ro, .ref pa, .int kd, .int ds, .int en, .int pl, .int (nI h), .int gv, .int rp, .int (cAge mk (pl - la)), .int pl]))]) (ws' := [(q, .inr (0, [.ref ro, .ref pa, .int kd, .int ds, .int en, .int pl, .int (nI h), .int gv, .int rp, .int (cAge mk (pl - la)), .int pl])), (ro, .inr (1, [.ref rb, .int sz])), (rb, .inl (cI, 64, .inl g))]) (ci := 1) (C := RX1) ⟨hx, hb, hml, hown, hts⟩ (c_X1_lowestFirst l D cI cF cJ ro rb 64 (h + 1) g sz (by omega) (by omega)) (cwV 1 hts gX0_stepX86_X1_lowestFirst rfl rfl rfl (by decide +kernel) ⟨Nat.le_of_ble_eq_true rfl, Nat.le_of_ble_eq_true rfl⟩) hK hP hD hS hA [1, 2] [0] [0, 1, 2] rfl rfl rfl rfl (by decide) rfl rfl rfl rfl rfl hl.1 (Nat.le_of_ble_eq_true rfl) ⟨Nat.zero_le _, Nat.zero_le _⟩ dX0_stepX86_71 (fun H locs hP hD hS => ?_) rfl
        refine lv_aload_n hx hb dX0_stepX86_74 rfl (lv_at hl 2 rfl) ?_
        refine va_get (D := D) (ci := 0) (v := .int pl) (C := RX0) (T := TX0) (N := 11) hx hb hts inX0 hown hK hP 0 rfl rfl 5 (by decide) k_42 (fun _ h9 => h9) rfl dX0_stepX86_75 ?_
        refine lv_iconst (v := 5) hx hb dX0_stepX86_78 (by decide) ?_
        refine lv_iadd hx hb dX0_stepX86_79 ?_
        refine kCallI (As := [.int (cLo g (h + 1)), .int (pl + 5)]) (wc := [(q, .inr (0, [.ref ro, .ref pa, .int kd, .int ds, .int en, .int pl, .int (nI h), .int gv, .int rp, .int (cAge mk (pl - la)), .int pl]))]) (wr := [(ro, .inr (1, [.ref rb, .int sz])), (rb, .inl (cI, 64, .inl g))]) (ws' := [(q, .inr (0, [.ref ro, .ref pa, .int kd, .int ds, .int en, .int pl, .int (nI h), .int gv, .int rp, .int (cAge mk (pl - la)), .int pl])), (ro, .inr (1, [.ref rb, .int sz])), (rb, .inl (cI, 64, .inl g))]) (ci := 0) (C := RX0) ⟨hx, hb, hml, hown, hts⟩ (c_X0_x86Target l D cI cF cJ q ro pa kd ds en pl (nI h) gv rp (cAge mk (pl - la)) pl (cLo g (h + 1)) (pl + 5) ) (cwV 2 hts gX0_stepX86_X0_x86Target rfl rfl rfl (by decide +kernel) ⟨Nat.le_of_ble_eq_true rfl, Nat.le_of_ble_eq_true rfl⟩) hK hP hD hS hA [0] [1, 2] [2, 0, 1] rfl rfl rfl rfl (by decide) rfl rfl rfl rfl rfl hl.1 (Nat.le_of_ble_eq_true rfl) ⟨Nat.zero_le _, Nat.zero_le _⟩ dX0_stepX86_80 (fun H locs hP hD hS => ?_) rfl
        refine lv_topi (fun x_8 e_8 => ?_)
        refine lv_istore_n (lv' := [(3, .int x_8), (2, .int x_3), (1, .int x_1), (0, .ref q)]) hx hb dX0_stepX86_83 rfl hl (by decide) rfl (fun ls hl => ?_)
        refine lv_aload_n hx hb dX0_stepX86_84 rfl (lv_at hl 3 rfl) ?_
        refine va_get (D := D) (ci := 0) (v := .ref ro) (C := RX0) (T := TX0) (N := 11) hx hb hts inX0 hown hK hP 0 rfl rfl 0 (by decide) k_14 (fun _ h9 => h9) rfl dX0_stepX86_85 ?_
        refine lv_aload_n hx hb dX0_stepX86_88 rfl (lv_at hl 3 rfl) ?_
        refine va_get (D := D) (ci := 0) (v := .int (nI h)) (C := RX0) (T := TX0) (N := 11) hx hb hts inX0 hown hK hP 0 rfl rfl 6 (by decide) k_65 (fun _ h9 => h9) rfl dX0_stepX86_89 ?_
        refine lv_iconst (v := 1) hx hb dX0_stepX86_92 (by decide) ?_
        refine lv_iadd hx hb dX0_stepX86_93 ?_
        refine kTop (y := nI (h + 1)) (nI_add _ 1) ?_
        refine lv_iload_n hx hb dX0_stepX86_94 rfl (lv_at hl 0 rfl) ?_
        refine lv_bipush (v := 7) hx hb dX0_stepX86_95 (by decide) ?_
        refine lv_ishl hx hb dX0_stepX86_97 ?_
        refine lv_bipush (v := 7) hx hb dX0_stepX86_98 (by decide) ?_
        refine lv_ishr hx hb dX0_stepX86_100 ?_
        refine kCallV (As := [.int (nI (h + 1)), .int ((x_8 <<< ((7 : Int32) &&& 31)) >>> ((7 : Int32) &&& 31))]) (wc := [(ro, .inr (1, [.ref rb, .int sz])), (rb, .inl (cI, 64, .inl g))]) (wr := [(q, .inr (0, [.ref ro, .ref pa, .int kd, .int ds, .int en, .int pl, .int (nI h), .int gv, .int rp, .int (cAge mk (pl - la)), .int pl]))]) (ws' := [(q, .inr (0, [.ref ro, .ref pa, .int kd, .int ds, .int en, .int pl, .int (nI h), .int gv, .int rp, .int (cAge mk (pl - la)), .int pl])), (ro, .inr (1, [.ref rb, .int sz])), (rb, .inl (cI, 64, .inl (cSetLo g (h + 1) ((x_8 <<< ((7 : Int32) &&& 31)) >>> ((7 : Int32) &&& 31)))))]) (ci := 1) (C := RX1) ⟨hx, hb, hml, hown, hts⟩ (c_X1_setLowestFirst l D cI cF cJ ro rb 64 (h + 1) g sz ((x_8 <<< ((7 : Int32) &&& 31)) >>> ((7 : Int32) &&& 31)) (by omega) (by omega)) (cwV 2 hts gX0_stepX86_X1_setLowestFirst rfl rfl rfl (by decide +kernel) ⟨Nat.le_of_ble_eq_true rfl, Nat.le_of_ble_eq_true rfl⟩) hK hP hD hS hA [1, 2] [0] [0, 1, 2] rfl rfl rfl rfl (by decide) rfl rfl rfl rfl rfl hl.1 (Nat.le_of_ble_eq_true rfl) ⟨Nat.zero_le _, Nat.zero_le _⟩ dX0_stepX86_101 (fun H locs hP hD hS => ?_) rfl
        refine lv_aload_n hx hb dX0_stepX86_104 rfl (lv_at hl 3 rfl) ?_
        refine lv_iconst (v := 0) hx hb dX0_stepX86_105 (by decide) ?_
        refine kPut (D := D) (ci := 0) (v := .int 0) (ty := .int) (C := RX0) (T := TX0) (N := 11) (ws' := [(q, .inr (0, [.ref ro, .ref pa, .int kd, .int ds, .int en, .int pl, .int (nI h), .int gv, .int rp, .int 0, .int pl])), (ro, .inr (1, [.ref rb, .int sz])), (rb, .inl (cI, 64, .inl (cSetLo g (h + 1) ((x_8 <<< ((7 : Int32) &&& 31)) >>> ((7 : Int32) &&& 31)))))]) hx hb hts inX0 tyX0 tyX0_ok nmX0 hown hK hP hD hS 0 rfl rfl 9 (by decide) k_51 rfl (by decide +kernel) (rfl) (by first | rfl | decide) (Nat.le_of_ble_eq_true rfl) rfl dX0_stepX86_106 (fun H locs hP hD hS => ?_)
        refine lv_aload_n hx hb dX0_stepX86_109 rfl (lv_at hl 3 rfl) ?_
        refine lv_dup hx hb dX0_stepX86_110 rfl ?_
        refine va_get (D := D) (ci := 0) (v := .int rp) (C := RX0) (T := TX0) (N := 11) hx hb hts inX0 hown hK hP 0 rfl rfl 8 (by decide) k_48 (fun _ h9 => h9) rfl dX0_stepX86_111 ?_
        refine lv_iconst (v := 1) hx hb dX0_stepX86_114 (by decide) ?_
        refine lv_iadd hx hb dX0_stepX86_115 ?_
        refine kPut (D := D) (ci := 0) (v := .int (rp + 1)) (ty := .int) (C := RX0) (T := TX0) (N := 11) (ws' := [(q, .inr (0, [.ref ro, .ref pa, .int kd, .int ds, .int en, .int pl, .int (nI h), .int gv, .int (rp + 1), .int 0, .int pl])), (ro, .inr (1, [.ref rb, .int sz])), (rb, .inl (cI, 64, .inl (cSetLo g (h + 1) ((x_8 <<< ((7 : Int32) &&& 31)) >>> ((7 : Int32) &&& 31)))))]) hx hb hts inX0 tyX0 tyX0_ok nmX0 hown hK hP hD hS 0 rfl rfl 8 (by decide) k_48 rfl (by decide +kernel) (rfl) (by first | rfl | decide) (Nat.le_of_ble_eq_true rfl) rfl dX0_stepX86_116 (fun H locs hP hD hS => ?_)
        refine lv_iconst (v := 5) hx hb dX0_stepX86_119 (by decide) ?_
        subst e_8
        subst e_3
        subst e_1
        have e9 : cX86 en pl rp mk la h g = (5, rp + 1, 0, pl, cSetLo g (h + 1) (((cXt en (cAge mk (pl - la)) (cLo g (h + 1)) (pl + 5)) <<< ((7 : Int32) &&& 31)) >>> ((7 : Int32) &&& 31))) := (if_pos c_2).trans ((if_neg c_4).trans (if_neg c_6))
        exact hret _ _ _ _ _ dX0_stepX86_120 (by rw [e9]) (by rw [e9]; exact hP) (by rw [e9]; exact hD) hS
  · refine lv_iload_n hx hb dX0_stepX86_19 rfl (lv_at hl 0 rfl) ?_
    refine lv_sipush (v := 233) hx hb dX0_stepX86_20 (by decide) ?_
    refine lv_icmp_eq (tgt := 28) hx hb dX0_stepX86_23 (by decide) (fun c_9 => ?_) (fun c_9 => ?_)
    · refine lv_aload_n hx hb dX0_stepX86_28 rfl (lv_at hl 1 rfl) ?_
      refine kCallV (As := []) (wc := [(q, .inr (0, [.ref ro, .ref pa, .int kd, .int ds, .int en, .int pl, .int (nI h), .int gv, .int rp, .int mk, .int la]))]) (wr := [(ro, .inr (1, [.ref rb, .int sz])), (rb, .inl (cI, 64, .inl g))]) (ws' := [(q, .inr (0, [.ref ro, .ref pa, .int kd, .int ds, .int en, .int pl, .int (nI h), .int gv, .int rp, .int (cAge mk (pl - la)), .int pl])), (ro, .inr (1, [.ref rb, .int sz])), (rb, .inl (cI, 64, .inl g))]) (ci := 0) (C := RX0) ⟨hx, hb, hml, hown, hts⟩ (c_X0_ageMask l D cI cF cJ q ro pa kd ds en pl (nI h) gv rp mk la ) (cwV 0 hts gX0_stepX86_X0_ageMask rfl rfl rfl (by decide +kernel) ⟨Nat.le_of_ble_eq_true rfl, Nat.le_of_ble_eq_true rfl⟩) hK hP hD hS hA [0] [1, 2] [2, 0, 1] rfl rfl rfl rfl (by decide) rfl rfl rfl rfl rfl hl.1 (Nat.le_of_ble_eq_true rfl) ⟨Nat.zero_le _, Nat.zero_le _⟩ dX0_stepX86_29 (fun H locs hP hD hS => ?_) rfl
      refine lv_aload_n hx hb dX0_stepX86_32 rfl (lv_at hl 1 rfl) ?_
      refine va_get (D := D) (ci := 0) (v := .ref ro) (C := RX0) (T := TX0) (N := 11) hx hb hts inX0 hown hK hP 0 rfl rfl 0 (by decide) k_14 (fun _ h9 => h9) rfl dX0_stepX86_33 ?_
      refine lv_aload_n hx hb dX0_stepX86_36 rfl (lv_at hl 1 rfl) ?_
      refine va_get (D := D) (ci := 0) (v := .int (nI h)) (C := RX0) (T := TX0) (N := 11) hx hb hts inX0 hown hK hP 0 rfl rfl 6 (by decide) k_65 (fun _ h9 => h9) rfl dX0_stepX86_37 ?_
      refine lv_iconst (v := 4) hx hb dX0_stepX86_40 (by decide) ?_
      refine lv_iadd hx hb dX0_stepX86_41 ?_
      refine kTop (y := nI (h + 4)) (nI_add _ 4) ?_
      refine kCallI (As := [.int (nI (h + 4))]) (wc := [(ro, .inr (1, [.ref rb, .int sz])), (rb, .inl (cI, 64, .inl g))]) (wr := [(q, .inr (0, [.ref ro, .ref pa, .int kd, .int ds, .int en, .int pl, .int (nI h), .int gv, .int rp, .int (cAge mk (pl - la)), .int pl]))]) (ws' := [(q, .inr (0, [.ref ro, .ref pa, .int kd, .int ds, .int en, .int pl, .int (nI h), .int gv, .int rp, .int (cAge mk (pl - la)), .int pl])), (ro, .inr (1, [.ref rb, .int sz])), (rb, .inl (cI, 64, .inl g))]) (ci := 1) (C := RX1) ⟨hx, hb, hml, hown, hts⟩ (c_X1_at l D cI cF cJ ro rb 64 (h + 4) g sz (by omega) (by omega)) (cwV 1 hts gX0_stepX86_X1_at rfl rfl rfl (by decide +kernel) ⟨Nat.le_of_ble_eq_true rfl, Nat.le_of_ble_eq_true rfl⟩) hK hP hD hS hA [1, 2] [0] [0, 1, 2] rfl rfl rfl rfl (by decide) rfl rfl rfl rfl rfl hl.1 (Nat.le_of_ble_eq_true rfl) ⟨Nat.zero_le _, Nat.zero_le _⟩ dX0_stepX86_42 (fun H locs hP hD hS => ?_) rfl
      refine kCallS (As := [.int (g (h + 4))]) ⟨hx, hb, hml, hown, hts⟩ (c_X0_isSignByte l D cI cF cJ (g (h + 4)) ) (cwS 1 hts gX0_stepX86_X0_isSignByte rfl rfl rfl (by decide +kernel) ⟨Nat.le_of_ble_eq_true rfl, Nat.le_of_ble_eq_true rfl⟩) hK hP hD hS hA rfl hl.1 (Nat.le_of_ble_eq_true rfl) ⟨Nat.zero_le _, Nat.zero_le _⟩ dX0_stepX86_45 (fun H locs hP hD hS => ?_) rfl
      refine lv_topi (fun x_10 e_10 => ?_)
      refine lv_istore_n (lv' := [(2, .int x_10), (1, .int x_1), (0, .ref q)]) hx hb dX0_stepX86_48 rfl hl (by decide) rfl (fun ls hl => ?_)
      refine lv_iload_n hx hb dX0_stepX86_49 rfl (lv_at hl 0 rfl) ?_
      refine lv_if_eq (tgt := 121) hx hb dX0_stepX86_50 (by decide) (fun c_11 => ?_) (fun c_11 => ?_)
      · refine lv_aload_n hx hb dX0_stepX86_121 rfl (lv_at hl 2 rfl) ?_
        refine lv_dup hx hb dX0_stepX86_122 rfl ?_
        refine va_get (D := D) (ci := 0) (v := .int (cAge mk (pl - la))) (C := RX0) (T := TX0) (N := 11) hx hb hts inX0 hown hK hP 0 rfl rfl 9 (by decide) k_51 (fun _ h9 => h9) rfl dX0_stepX86_123 ?_
        refine lv_iload_n hx hb dX0_stepX86_126 rfl (lv_at hl 0 rfl) ?_
        refine lv_if_eq (tgt := 135) hx hb dX0_stepX86_127 (by decide) (fun c_12 => ?_) (fun c_12 => ?_)
        · refine lv_iconst (v := 1) hx hb dX0_stepX86_135 (by decide) ?_
          refine lv_ior hx hb dX0_stepX86_136 ?_
          refine kPut (D := D) (ci := 0) (v := .int ((cAge mk (pl - la)) ||| 1)) (ty := .int) (C := RX0) (T := TX0) (N := 11) (ws' := [(q, .inr (0, [.ref ro, .ref pa, .int kd, .int ds, .int en, .int pl, .int (nI h), .int gv, .int rp, .int ((cAge mk (pl - la)) ||| 1), .int pl])), (ro, .inr (1, [.ref rb, .int sz])), (rb, .inl (cI, 64, .inl g))]) hx hb hts inX0 tyX0 tyX0_ok nmX0 hown hK hP hD hS 0 rfl rfl 9 (by decide) k_51 rfl (by decide +kernel) (rfl) (by first | rfl | decide) (Nat.le_of_ble_eq_true rfl) rfl dX0_stepX86_137 (fun H locs hP hD hS => ?_)
          refine lv_iconst (v := 1) hx hb dX0_stepX86_140 (by decide) ?_
          subst e_10
          subst e_1
          have e9 : cX86 en pl rp mk la h g = (1, rp, (cAge mk (pl - la)) ||| 1, pl, g) := (if_neg c_2).trans ((if_pos c_9).trans ((if_pos c_11).trans (if_pos c_12)))
          exact hret _ _ _ _ _ dX0_stepX86_141 (by rw [e9]) (by rw [e9]; exact hP) (by rw [e9]; exact hD) hS
        · refine lv_bipush (v := 17) hx hb dX0_stepX86_130 (by decide) ?_
          refine lv_goto (tgt := 136) hx hb dX0_stepX86_132 (by decide) ?_
          refine lv_ior hx hb dX0_stepX86_136 ?_
          refine kPut (D := D) (ci := 0) (v := .int ((cAge mk (pl - la)) ||| 17)) (ty := .int) (C := RX0) (T := TX0) (N := 11) (ws' := [(q, .inr (0, [.ref ro, .ref pa, .int kd, .int ds, .int en, .int pl, .int (nI h), .int gv, .int rp, .int ((cAge mk (pl - la)) ||| 17), .int pl])), (ro, .inr (1, [.ref rb, .int sz])), (rb, .inl (cI, 64, .inl g))]) hx hb hts inX0 tyX0 tyX0_ok nmX0 hown hK hP hD hS 0 rfl rfl 9 (by decide) k_51 rfl (by decide +kernel) (rfl) (by first | rfl | decide) (Nat.le_of_ble_eq_true rfl) rfl dX0_stepX86_137 (fun H locs hP hD hS => ?_)
          refine lv_iconst (v := 1) hx hb dX0_stepX86_140 (by decide) ?_
          subst e_10
          subst e_1
          have e9 : cX86 en pl rp mk la h g = (1, rp, (cAge mk (pl - la)) ||| 17, pl, g) := (if_neg c_2).trans ((if_pos c_9).trans ((if_pos c_11).trans (if_neg c_12)))
          exact hret _ _ _ _ _ dX0_stepX86_141 (by rw [e9]) (by rw [e9]; exact hP) (by rw [e9]; exact hD) hS
      · refine lv_aload_n hx hb dX0_stepX86_53 rfl (lv_at hl 2 rfl) ?_
        refine kCallI (As := []) (wc := [(q, .inr (0, [.ref ro, .ref pa, .int kd, .int ds, .int en, .int pl, .int (nI h), .int gv, .int rp, .int (cAge mk (pl - la)), .int pl]))]) (wr := [(ro, .inr (1, [.ref rb, .int sz])), (rb, .inl (cI, 64, .inl g))]) (ws' := [(q, .inr (0, [.ref ro, .ref pa, .int kd, .int ds, .int en, .int pl, .int (nI h), .int gv, .int rp, .int (cAge mk (pl - la)), .int pl])), (ro, .inr (1, [.ref rb, .int sz])), (rb, .inl (cI, 64, .inl g))]) (ci := 0) (C := RX0) ⟨hx, hb, hml, hown, hts⟩ (c_X0_maskAllows l D cI cF cJ q ro pa kd ds en pl (nI h) gv rp (cAge mk (pl - la)) pl ) (cwV 0 hts gX0_stepX86_X0_maskAllows rfl rfl rfl (by decide +kernel) ⟨Nat.le_of_ble_eq_true rfl, Nat.le_of_ble_eq_true rfl⟩) hK hP hD hS hA [0] [1, 2] [2, 0, 1] rfl rfl rfl rfl (by decide) rfl rfl rfl rfl rfl hl.1 (Nat.le_of_ble_eq_true rfl) ⟨Nat.zero_le _, Nat.zero_le _⟩ dX0_stepX86_54 (fun H locs hP hD hS => ?_) rfl
        refine lv_if_eq (tgt := 121) hx hb dX0_stepX86_57 (by decide) (fun c_13 => ?_) (fun c_13 => ?_)
        · refine lv_aload_n hx hb dX0_stepX86_121 rfl (lv_at hl 2 rfl) ?_
          refine lv_dup hx hb dX0_stepX86_122 rfl ?_
          refine va_get (D := D) (ci := 0) (v := .int (cAge mk (pl - la))) (C := RX0) (T := TX0) (N := 11) hx hb hts inX0 hown hK hP 0 rfl rfl 9 (by decide) k_51 (fun _ h9 => h9) rfl dX0_stepX86_123 ?_
          refine lv_iload_n hx hb dX0_stepX86_126 rfl (lv_at hl 0 rfl) ?_
          refine lv_if_eq (tgt := 135) hx hb dX0_stepX86_127 (by decide) (fun c_14 => ?_) (fun c_14 => ?_)
          · refine lv_iconst (v := 1) hx hb dX0_stepX86_135 (by decide) ?_
            refine lv_ior hx hb dX0_stepX86_136 ?_
            refine kPut (D := D) (ci := 0) (v := .int ((cAge mk (pl - la)) ||| 1)) (ty := .int) (C := RX0) (T := TX0) (N := 11) (ws' := [(q, .inr (0, [.ref ro, .ref pa, .int kd, .int ds, .int en, .int pl, .int (nI h), .int gv, .int rp, .int ((cAge mk (pl - la)) ||| 1), .int pl])), (ro, .inr (1, [.ref rb, .int sz])), (rb, .inl (cI, 64, .inl g))]) hx hb hts inX0 tyX0 tyX0_ok nmX0 hown hK hP hD hS 0 rfl rfl 9 (by decide) k_51 rfl (by decide +kernel) (rfl) (by first | rfl | decide) (Nat.le_of_ble_eq_true rfl) rfl dX0_stepX86_137 (fun H locs hP hD hS => ?_)
            refine lv_iconst (v := 1) hx hb dX0_stepX86_140 (by decide) ?_
            subst e_10
            subst e_1
            have e9 : cX86 en pl rp mk la h g = (1, rp, (cAge mk (pl - la)) ||| 1, pl, g) := (if_neg c_2).trans ((if_pos c_9).trans ((if_neg c_11).trans ((if_pos c_13).trans (if_pos c_14))))
            exact hret _ _ _ _ _ dX0_stepX86_141 (by rw [e9]) (by rw [e9]; exact hP) (by rw [e9]; exact hD) hS
          · refine lv_bipush (v := 17) hx hb dX0_stepX86_130 (by decide) ?_
            refine lv_goto (tgt := 136) hx hb dX0_stepX86_132 (by decide) ?_
            refine lv_ior hx hb dX0_stepX86_136 ?_
            refine kPut (D := D) (ci := 0) (v := .int ((cAge mk (pl - la)) ||| 17)) (ty := .int) (C := RX0) (T := TX0) (N := 11) (ws' := [(q, .inr (0, [.ref ro, .ref pa, .int kd, .int ds, .int en, .int pl, .int (nI h), .int gv, .int rp, .int ((cAge mk (pl - la)) ||| 17), .int pl])), (ro, .inr (1, [.ref rb, .int sz])), (rb, .inl (cI, 64, .inl g))]) hx hb hts inX0 tyX0 tyX0_ok nmX0 hown hK hP hD hS 0 rfl rfl 9 (by decide) k_51 rfl (by decide +kernel) (rfl) (by first | rfl | decide) (Nat.le_of_ble_eq_true rfl) rfl dX0_stepX86_137 (fun H locs hP hD hS => ?_)
            refine lv_iconst (v := 1) hx hb dX0_stepX86_140 (by decide) ?_
            subst e_10
            subst e_1
            have e9 : cX86 en pl rp mk la h g = (1, rp, (cAge mk (pl - la)) ||| 17, pl, g) := (if_neg c_2).trans ((if_pos c_9).trans ((if_neg c_11).trans ((if_pos c_13).trans (if_neg c_14))))
            exact hret _ _ _ _ _ dX0_stepX86_141 (by rw [e9]) (by rw [e9]; exact hP) (by rw [e9]; exact hD) hS
        · refine lv_aload_n hx hb dX0_stepX86_60 rfl (lv_at hl 2 rfl) ?_
          refine lv_aload_n hx hb dX0_stepX86_61 rfl (lv_at hl 2 rfl) ?_
          refine va_get (D := D) (ci := 0) (v := .ref ro) (C := RX0) (T := TX0) (N := 11) hx hb hts inX0 hown hK hP 0 rfl rfl 0 (by decide) k_14 (fun _ h9 => h9) rfl dX0_stepX86_62 ?_
          refine lv_aload_n hx hb dX0_stepX86_65 rfl (lv_at hl 2 rfl) ?_
          refine va_get (D := D) (ci := 0) (v := .int (nI h)) (C := RX0) (T := TX0) (N := 11) hx hb hts inX0 hown hK hP 0 rfl rfl 6 (by decide) k_65 (fun _ h9 => h9) rfl dX0_stepX86_66 ?_
          refine lv_iconst (v := 1) hx hb dX0_stepX86_69 (by decide) ?_
          refine lv_iadd hx hb dX0_stepX86_70 ?_
          refine kTop (y := nI (h + 1)) (nI_add _ 1) ?_
          refine kCallI (As := [.int (nI (h + 1))]) (wc := [(ro, .inr (1, [.ref rb, .int sz])), (rb, .inl (cI, 64, .inl g))]) (wr := [(q, .inr (0, [.ref ro, .ref pa, .int kd, .int ds, .int en, .int pl, .int (nI h), .int gv, .int rp, .int (cAge mk (pl - la)), .int pl]))]) (ws' := [(q, .inr (0, [.ref ro, .ref pa, .int kd, .int ds, .int en, .int pl, .int (nI h), .int gv, .int rp, .int (cAge mk (pl - la)), .int pl])), (ro, .inr (1, [.ref rb, .int sz])), (rb, .inl (cI, 64, .inl g))]) (ci := 1) (C := RX1) ⟨hx, hb, hml, hown, hts⟩ (c_X1_lowestFirst l D cI cF cJ ro rb 64 (h + 1) g sz (by omega) (by omega)) (cwV 1 hts gX0_stepX86_X1_lowestFirst rfl rfl rfl (by decide +kernel) ⟨Nat.le_of_ble_eq_true rfl, Nat.le_of_ble_eq_true rfl⟩) hK hP hD hS hA [1, 2] [0] [0, 1, 2] rfl rfl rfl rfl (by decide) rfl rfl rfl rfl rfl hl.1 (Nat.le_of_ble_eq_true rfl) ⟨Nat.zero_le _, Nat.zero_le _⟩ dX0_stepX86_71 (fun H locs hP hD hS => ?_) rfl
          refine lv_aload_n hx hb dX0_stepX86_74 rfl (lv_at hl 2 rfl) ?_
          refine va_get (D := D) (ci := 0) (v := .int pl) (C := RX0) (T := TX0) (N := 11) hx hb hts inX0 hown hK hP 0 rfl rfl 5 (by decide) k_42 (fun _ h9 => h9) rfl dX0_stepX86_75 ?_
          refine lv_iconst (v := 5) hx hb dX0_stepX86_78 (by decide) ?_
          refine lv_iadd hx hb dX0_stepX86_79 ?_
          refine kCallI (As := [.int (cLo g (h + 1)), .int (pl + 5)]) (wc := [(q, .inr (0, [.ref ro, .ref pa, .int kd, .int ds, .int en, .int pl, .int (nI h), .int gv, .int rp, .int (cAge mk (pl - la)), .int pl]))]) (wr := [(ro, .inr (1, [.ref rb, .int sz])), (rb, .inl (cI, 64, .inl g))]) (ws' := [(q, .inr (0, [.ref ro, .ref pa, .int kd, .int ds, .int en, .int pl, .int (nI h), .int gv, .int rp, .int (cAge mk (pl - la)), .int pl])), (ro, .inr (1, [.ref rb, .int sz])), (rb, .inl (cI, 64, .inl g))]) (ci := 0) (C := RX0) ⟨hx, hb, hml, hown, hts⟩ (c_X0_x86Target l D cI cF cJ q ro pa kd ds en pl (nI h) gv rp (cAge mk (pl - la)) pl (cLo g (h + 1)) (pl + 5) ) (cwV 2 hts gX0_stepX86_X0_x86Target rfl rfl rfl (by decide +kernel) ⟨Nat.le_of_ble_eq_true rfl, Nat.le_of_ble_eq_true rfl⟩) hK hP hD hS hA [0] [1, 2] [2, 0, 1] rfl rfl rfl rfl (by decide) rfl rfl rfl rfl rfl hl.1 (Nat.le_of_ble_eq_true rfl) ⟨Nat.zero_le _, Nat.zero_le _⟩ dX0_stepX86_80 (fun H locs hP hD hS => ?_) rfl
          refine lv_topi (fun x_15 e_15 => ?_)
          refine lv_istore_n (lv' := [(3, .int x_15), (2, .int x_10), (1, .int x_1), (0, .ref q)]) hx hb dX0_stepX86_83 rfl hl (by decide) rfl (fun ls hl => ?_)
          refine lv_aload_n hx hb dX0_stepX86_84 rfl (lv_at hl 3 rfl) ?_
          refine va_get (D := D) (ci := 0) (v := .ref ro) (C := RX0) (T := TX0) (N := 11) hx hb hts inX0 hown hK hP 0 rfl rfl 0 (by decide) k_14 (fun _ h9 => h9) rfl dX0_stepX86_85 ?_
          refine lv_aload_n hx hb dX0_stepX86_88 rfl (lv_at hl 3 rfl) ?_
          refine va_get (D := D) (ci := 0) (v := .int (nI h)) (C := RX0) (T := TX0) (N := 11) hx hb hts inX0 hown hK hP 0 rfl rfl 6 (by decide) k_65 (fun _ h9 => h9) rfl dX0_stepX86_89 ?_
          refine lv_iconst (v := 1) hx hb dX0_stepX86_92 (by decide) ?_
          refine lv_iadd hx hb dX0_stepX86_93 ?_
          refine kTop (y := nI (h + 1)) (nI_add _ 1) ?_
          refine lv_iload_n hx hb dX0_stepX86_94 rfl (lv_at hl 0 rfl) ?_
          refine lv_bipush (v := 7) hx hb dX0_stepX86_95 (by decide) ?_
          refine lv_ishl hx hb dX0_stepX86_97 ?_
          refine lv_bipush (v := 7) hx hb dX0_stepX86_98 (by decide) ?_
          refine lv_ishr hx hb dX0_stepX86_100 ?_
          refine kCallV (As := [.int (nI (h + 1)), .int ((x_15 <<< ((7 : Int32) &&& 31)) >>> ((7 : Int32) &&& 31))]) (wc := [(ro, .inr (1, [.ref rb, .int sz])), (rb, .inl (cI, 64, .inl g))]) (wr := [(q, .inr (0, [.ref ro, .ref pa, .int kd, .int ds, .int en, .int pl, .int (nI h), .int gv, .int rp, .int (cAge mk (pl - la)), .int pl]))]) (ws' := [(q, .inr (0, [.ref ro, .ref pa, .int kd, .int ds, .int en, .int pl, .int (nI h), .int gv, .int rp, .int (cAge mk (pl - la)), .int pl])), (ro, .inr (1, [.ref rb, .int sz])), (rb, .inl (cI, 64, .inl (cSetLo g (h + 1) ((x_15 <<< ((7 : Int32) &&& 31)) >>> ((7 : Int32) &&& 31)))))]) (ci := 1) (C := RX1) ⟨hx, hb, hml, hown, hts⟩ (c_X1_setLowestFirst l D cI cF cJ ro rb 64 (h + 1) g sz ((x_15 <<< ((7 : Int32) &&& 31)) >>> ((7 : Int32) &&& 31)) (by omega) (by omega)) (cwV 2 hts gX0_stepX86_X1_setLowestFirst rfl rfl rfl (by decide +kernel) ⟨Nat.le_of_ble_eq_true rfl, Nat.le_of_ble_eq_true rfl⟩) hK hP hD hS hA [1, 2] [0] [0, 1, 2] rfl rfl rfl rfl (by decide) rfl rfl rfl rfl rfl hl.1 (Nat.le_of_ble_eq_true rfl) ⟨Nat.zero_le _, Nat.zero_le _⟩ dX0_stepX86_101 (fun H locs hP hD hS => ?_) rfl
          refine lv_aload_n hx hb dX0_stepX86_104 rfl (lv_at hl 3 rfl) ?_
          refine lv_iconst (v := 0) hx hb dX0_stepX86_105 (by decide) ?_
          refine kPut (D := D) (ci := 0) (v := .int 0) (ty := .int) (C := RX0) (T := TX0) (N := 11) (ws' := [(q, .inr (0, [.ref ro, .ref pa, .int kd, .int ds, .int en, .int pl, .int (nI h), .int gv, .int rp, .int 0, .int pl])), (ro, .inr (1, [.ref rb, .int sz])), (rb, .inl (cI, 64, .inl (cSetLo g (h + 1) ((x_15 <<< ((7 : Int32) &&& 31)) >>> ((7 : Int32) &&& 31)))))]) hx hb hts inX0 tyX0 tyX0_ok nmX0 hown hK hP hD hS 0 rfl rfl 9 (by decide) k_51 rfl (by decide +kernel) (rfl) (by first | rfl | decide) (Nat.le_of_ble_eq_true rfl) rfl dX0_stepX86_106 (fun H locs hP hD hS => ?_)
          refine lv_aload_n hx hb dX0_stepX86_109 rfl (lv_at hl 3 rfl) ?_
          refine lv_dup hx hb dX0_stepX86_110 rfl ?_
          refine va_get (D := D) (ci := 0) (v := .int rp) (C := RX0) (T := TX0) (N := 11) hx hb hts inX0 hown hK hP 0 rfl rfl 8 (by decide) k_48 (fun _ h9 => h9) rfl dX0_stepX86_111 ?_
          refine lv_iconst (v := 1) hx hb dX0_stepX86_114 (by decide) ?_
          refine lv_iadd hx hb dX0_stepX86_115 ?_
          refine kPut (D := D) (ci := 0) (v := .int (rp + 1)) (ty := .int) (C := RX0) (T := TX0) (N := 11) (ws' := [(q, .inr (0, [.ref ro, .ref pa, .int kd, .int ds, .int en, .int pl, .int (nI h), .int gv, .int (rp + 1), .int 0, .int pl])), (ro, .inr (1, [.ref rb, .int sz])), (rb, .inl (cI, 64, .inl (cSetLo g (h + 1) ((x_15 <<< ((7 : Int32) &&& 31)) >>> ((7 : Int32) &&& 31)))))]) hx hb hts inX0 tyX0 tyX0_ok nmX0 hown hK hP hD hS 0 rfl rfl 8 (by decide) k_48 rfl (by decide +kernel) (rfl) (by first | rfl | decide) (Nat.le_of_ble_eq_true rfl) rfl dX0_stepX86_116 (fun H locs hP hD hS => ?_)
          refine lv_iconst (v := 5) hx hb dX0_stepX86_119 (by decide) ?_
          subst e_15
          subst e_10
          subst e_1
          have e9 : cX86 en pl rp mk la h g = (5, rp + 1, 0, pl, cSetLo g (h + 1) (((cXt en (cAge mk (pl - la)) (cLo g (h + 1)) (pl + 5)) <<< ((7 : Int32) &&& 31)) >>> ((7 : Int32) &&& 31))) := (if_neg c_2).trans ((if_pos c_9).trans ((if_neg c_11).trans (if_neg c_13)))
          exact hret _ _ _ _ _ dX0_stepX86_120 (by rw [e9]) (by rw [e9]; exact hP) (by rw [e9]; exact hD) hS
    · refine lv_iconst (v := 1) hx hb dX0_stepX86_26 (by decide) ?_
      subst e_1
      have e9 : cX86 en pl rp mk la h g = (1, rp, mk, la, g) := (if_neg c_2).trans (if_neg c_9)
      exact hret _ _ _ _ _ dX0_stepX86_27 (by rw [e9]) (by rw [e9]; exact hP) (by rw [e9]; exact hD) hS
end
section
/-! BranchFilters$Filter: step, restart, giveRest -/

/-- how many bytes a kind wants -/
def cNeed : Nat → Nat
  | 0 => 1
  | 1 => 1
  | 2 => 5
  | 3 => 4
  | 4 => 4
  | 5 => 4
  | 6 => 4
  | _ => 8
/-- a step of the filter: how many bytes, the count of numbers put, MASK, LAST, the past, the bytes -/
def cStep (kn : Nat) (en pl ds rp mk la : Int32) (h : Nat) (g pf : Nat → Int32) : Int32 × Int32 × Int32 × Int32 × (Nat → Int32) × (Nat → Int32) :=
  match kn with
  | 0 => (1, rp, mk, la, g, pf)
  | 1 => ((cDelta en pl ds h g pf).1, rp, mk, la, (cDelta en pl ds h g pf).2.1, (cDelta en pl ds h g pf).2.2)
  | 2 => ((cX86 en pl rp mk la h g).1, (cX86 en pl rp mk la h g).2.1, (cX86 en pl rp mk la h g).2.2.1, (cX86 en pl rp mk la h g).2.2.2.1, (cX86 en pl rp mk la h g).2.2.2.2, pf)
  | 3 => ((cArm en pl rp h g).1, (cArm en pl rp h g).2.1, mk, la, (cArm en pl rp h g).2.2, pf)
  | 4 => ((cThumb en pl rp h g).1, (cThumb en pl rp h g).2.1, mk, la, (cThumb en pl rp h g).2.2, pf)
  | 5 => ((cPower en pl rp h g).1, (cPower en pl rp h g).2.1, mk, la, (cPower en pl rp h g).2.2, pf)
  | 6 => ((cSparc en pl rp h g).1, (cSparc en pl rp h g).2.1, mk, la, (cSparc en pl rp h g).2.2, pf)
  | _ => ((cRisc en pl rp h g).1, (cRisc en pl rp h g).2.1, mk, la, (cRisc en pl rp h g).2.2, pf)

set_option maxHeartbeats 4000000 in
set_option maxRecDepth 100000 in
/-- Filter.step() -/
theorem c_X0_step (l : Launch) (D : va_G) (cI cF cJ : ClassId) (q ro pa rb h kn : Nat) (ds en pl gv rp mk la sz : Int32) (g pf : Nat → Int32) (hkn : kn < 8) (hk : h + cNeed kn ≤ 64) : kI l yX0_step wsX0_step ({ frames := 3, cells := 0, slots := 0, locals := 73 }) D (kTy cI cF cJ) [.ref q] [(q, .inr (0, [.ref ro, .ref pa, .int (nI kn), .int ds, .int en, .int pl, .int (nI h), .int gv, .int rp, .int mk, .int la])), (ro, .inr (1, [.ref rb, .int sz])), (rb, .inl (cI, 64, .inl g)), (pa, .inl (cI, 32, .inl pf))] [(q, .inr (0, [.ref ro, .ref pa, .int (nI kn), .int ds, .int en, .int pl, .int (nI h), .int gv, .int ((cStep kn en pl ds rp mk la h g pf).2.1), .int ((cStep kn en pl ds rp mk la h g pf).2.2.1), .int ((cStep kn en pl ds rp mk la h g pf).2.2.2.1)])), (ro, .inr (1, [.ref rb, .int sz])), (rb, .inl (cI, 64, .inl ((cStep kn en pl ds rp mk la h g pf).2.2.2.2.1))), (pa, .inl (cI, 32, .inl ((cStep kn en pl ds rp mk la h g pf).2.2.2.2.2)))] ((cStep kn en pl ds rp mk la h g pf).1) := by
  refine kI_of (cc := cX0_step) (nL := 1) (ty := .int) (own := RX0) (lv := [(0, .ref q)]) (by decide) rfl rfl (Nat.le_of_ble_eq_true rfl) rfl (rfl) ?_
  intro p e s m args below meth c A ls Q C hA hK hP hD hS hl hret
  obtain ⟨hx, hb, hr, hml, hown, hts, hlocks⟩ := C
  have k_32 := hts (.fieldLink RX0 32 "BranchFilters$Filter" "kind" "I") (by decide +kernel)
  have inX0 : ∀ w ∈ wsX00, w ∈ wsX0_step := by decide +kernel
  have hc : kn = 0 ∨ kn = 1 ∨ kn = 2 ∨ kn = 3 ∨ kn = 4 ∨ kn = 5 ∨ kn = 6 ∨ kn = 7 := by omega
  rcases hc with rfl | rfl | rfl | rfl | rfl | rfl | rfl | rfl
  · have hk : h + 1 ≤ 64 := hk
    refine lv_aload_n hx hb dX0_step_0 rfl (lv_at hl 0 rfl) ?_
    refine va_get (D := D) (ci := 0) (v := .int (nI 0)) (C := RX0) (T := TX0) (N := 11) hx hb hts inX0 hown hK hP 0 rfl rfl 2 (by decide) k_32 (fun _ h9 => h9) rfl dX0_step_1 ?_
    refine lv_tableOut (tgt := 83) hx hb dX0_step_4 (Or.inl (by decide)) (by decide) ?_
    refine lv_iconst (v := 1) hx hb dX0_step_83 (by decide) ?_
    exact hret _ _ _ _ _ dX0_step_84 rfl hP hD hS
  · have hk : h + 1 ≤ 64 := hk
    refine lv_aload_n hx hb dX0_step_0 rfl (lv_at hl 0 rfl) ?_
    refine va_get (D := D) (ci := 0) (v := .int (nI 1)) (C := RX0) (T := TX0) (N := 11) hx hb hts inX0 hown hK hP 0 rfl rfl 2 (by decide) k_32 (fun _ h9 => h9) rfl dX0_step_1 ?_
    refine lv_tableIn (tgt := 48) hx hb dX0_step_4 (by decide) (by decide) rfl (by decide) ?_
    refine lv_aload_n hx hb dX0_step_48 rfl (lv_at hl 0 rfl) ?_
    refine kCallI (As := []) (wc := [(q, .inr (0, [.ref ro, .ref pa, .int (nI 1), .int ds, .int en, .int pl, .int (nI h), .int gv, .int rp, .int mk, .int la])), (ro, .inr (1, [.ref rb, .int sz])), (rb, .inl (cI, 64, .inl g)), (pa, .inl (cI, 32, .inl pf))]) (wr := []) (ws' := [(q, .inr (0, [.ref ro, .ref pa, .int (nI 1), .int ds, .int en, .int pl, .int (nI h), .int gv, .int rp, .int mk, .int la])), (ro, .inr (1, [.ref rb, .int sz])), (rb, .inl (cI, 64, .inl ((cDelta en pl ds h g pf).2.1))), (pa, .inl (cI, 32, .inl ((cDelta en pl ds h g pf).2.2)))]) (ci := 0) (C := RX0) ⟨hx, hb, hml, hown, hts⟩ (c_X0_stepDelta l D cI cF cJ q ro pa rb h (nI 1) ds en pl gv rp mk la sz g pf (by omega)) (cwV 0 hts gX0_step_X0_stepDelta rfl rfl rfl (by decide +kernel) ⟨Nat.le_of_ble_eq_true rfl, Nat.le_of_ble_eq_true rfl⟩) hK hP hD hS hA [0, 1, 2, 3] [] [0, 1, 2, 3] rfl rfl rfl rfl (by decide) rfl rfl rfl rfl rfl hl.1 (Nat.le_of_ble_eq_true rfl) ⟨Nat.zero_le _, Nat.zero_le _⟩ dX0_step_49 (fun H locs hP hD hS => ?_) rfl
    exact hret _ _ _ _ _ dX0_step_52 rfl hP hD hS
  · have hk : h + 5 ≤ 64 := hk
    refine lv_aload_n hx hb dX0_step_0 rfl (lv_at hl 0 rfl) ?_
    refine va_get (D := D) (ci := 0) (v := .int (nI 2)) (C := RX0) (T := TX0) (N := 11) hx hb hts inX0 hown hK hP 0 rfl rfl 2 (by decide) k_32 (fun _ h9 => h9) rfl dX0_step_1 ?_
    refine lv_tableIn (tgt := 53) hx hb dX0_step_4 (by decide) (by decide) rfl (by decide) ?_
    refine lv_aload_n hx hb dX0_step_53 rfl (lv_at hl 0 rfl) ?_
    refine kCallI (As := []) (wc := [(q, .inr (0, [.ref ro, .ref pa, .int (nI 2), .int ds, .int en, .int pl, .int (nI h), .int gv, .int rp, .int mk, .int la])), (ro, .inr (1, [.ref rb, .int sz])), (rb, .inl (cI, 64, .inl g))]) (wr := [(pa, .inl (cI, 32, .inl pf))]) (ws' := [(q, .inr (0, [.ref ro, .ref pa, .int (nI 2), .int ds, .int en, .int pl, .int (nI h), .int gv, .int ((cX86 en pl rp mk la h g).2.1), .int ((cX86 en pl rp mk la h g).2.2.1), .int ((cX86 en pl rp mk la h g).2.2.2.1)])), (ro, .inr (1, [.ref rb, .int sz])), (rb, .inl (cI, 64, .inl ((cX86 en pl rp mk la h g).2.2.2.2))), (pa, .inl (cI, 32, .inl pf))]) (ci := 0) (C := RX0) ⟨hx, hb, hml, hown, hts⟩ (c_X0_stepX86 l D cI cF cJ q ro pa rb h (nI 2) ds en pl gv rp mk la sz g (by omega)) (cwV 0 hts gX0_step_X0_stepX86 rfl rfl rfl (by decide +kernel) ⟨Nat.le_of_ble_eq_true rfl, Nat.le_of_ble_eq_true rfl⟩) hK hP hD hS hA [0, 1, 2] [3] [1, 2, 3, 0] rfl rfl rfl rfl (by decide) rfl rfl rfl rfl rfl hl.1 (Nat.le_of_ble_eq_true rfl) ⟨Nat.zero_le _, Nat.zero_le _⟩ dX0_step_54 (fun H locs hP hD hS => ?_) rfl
    exact hret _ _ _ _ _ dX0_step_57 rfl hP hD hS
  · have hk : h + 4 ≤ 64 := hk
    refine lv_aload_n hx hb dX0_step_0 rfl (lv_at hl 0 rfl) ?_
    refine va_get (D := D) (ci := 0) (v := .int (nI 3)) (C := RX0) (T := TX0) (N := 11) hx hb hts inX0 hown hK hP 0 rfl rfl 2 (by decide) k_32 (fun _ h9 => h9) rfl dX0_step_1 ?_
    refine lv_tableIn (tgt := 58) hx hb dX0_step_4 (by decide) (by decide) rfl (by decide) ?_
    refine lv_aload_n hx hb dX0_step_58 rfl (lv_at hl 0 rfl) ?_
    refine kCallI (As := []) (wc := [(q, .inr (0, [.ref ro, .ref pa, .int (nI 3), .int ds, .int en, .int pl, .int (nI h), .int gv, .int rp, .int mk, .int la])), (ro, .inr (1, [.ref rb, .int sz])), (rb, .inl (cI, 64, .inl g))]) (wr := [(pa, .inl (cI, 32, .inl pf))]) (ws' := [(q, .inr (0, [.ref ro, .ref pa, .int (nI 3), .int ds, .int en, .int pl, .int (nI h), .int gv, .int ((cArm en pl rp h g).2.1), .int mk, .int la])), (ro, .inr (1, [.ref rb, .int sz])), (rb, .inl (cI, 64, .inl ((cArm en pl rp h g).2.2))), (pa, .inl (cI, 32, .inl pf))]) (ci := 0) (C := RX0) ⟨hx, hb, hml, hown, hts⟩ (c_X0_stepArm l D cI cF cJ q ro pa rb h (nI 3) ds en pl gv rp mk la sz g (by omega)) (cwV 0 hts gX0_step_X0_stepArm rfl rfl rfl (by decide +kernel) ⟨Nat.le_of_ble_eq_true rfl, Nat.le_of_ble_eq_true rfl⟩) hK hP hD hS hA [0, 1, 2] [3] [1, 2, 3, 0] rfl rfl rfl rfl (by decide) rfl rfl rfl rfl rfl hl.1 (Nat.le_of_ble_eq_true rfl) ⟨Nat.zero_le _, Nat.zero_le _⟩ dX0_step_59 (fun H locs hP hD hS => ?_) rfl
    exact hret _ _ _ _ _ dX0_step_62 rfl hP hD hS
  · have hk : h + 4 ≤ 64 := hk
    refine lv_aload_n hx hb dX0_step_0 rfl (lv_at hl 0 rfl) ?_
    refine va_get (D := D) (ci := 0) (v := .int (nI 4)) (C := RX0) (T := TX0) (N := 11) hx hb hts inX0 hown hK hP 0 rfl rfl 2 (by decide) k_32 (fun _ h9 => h9) rfl dX0_step_1 ?_
    refine lv_tableIn (tgt := 63) hx hb dX0_step_4 (by decide) (by decide) rfl (by decide) ?_
    refine lv_aload_n hx hb dX0_step_63 rfl (lv_at hl 0 rfl) ?_
    refine kCallI (As := []) (wc := [(q, .inr (0, [.ref ro, .ref pa, .int (nI 4), .int ds, .int en, .int pl, .int (nI h), .int gv, .int rp, .int mk, .int la])), (ro, .inr (1, [.ref rb, .int sz])), (rb, .inl (cI, 64, .inl g))]) (wr := [(pa, .inl (cI, 32, .inl pf))]) (ws' := [(q, .inr (0, [.ref ro, .ref pa, .int (nI 4), .int ds, .int en, .int pl, .int (nI h), .int gv, .int ((cThumb en pl rp h g).2.1), .int mk, .int la])), (ro, .inr (1, [.ref rb, .int sz])), (rb, .inl (cI, 64, .inl ((cThumb en pl rp h g).2.2))), (pa, .inl (cI, 32, .inl pf))]) (ci := 0) (C := RX0) ⟨hx, hb, hml, hown, hts⟩ (c_X0_stepThumb l D cI cF cJ q ro pa rb h (nI 4) ds en pl gv rp mk la sz g (by omega)) (cwV 0 hts gX0_step_X0_stepThumb rfl rfl rfl (by decide +kernel) ⟨Nat.le_of_ble_eq_true rfl, Nat.le_of_ble_eq_true rfl⟩) hK hP hD hS hA [0, 1, 2] [3] [1, 2, 3, 0] rfl rfl rfl rfl (by decide) rfl rfl rfl rfl rfl hl.1 (Nat.le_of_ble_eq_true rfl) ⟨Nat.zero_le _, Nat.zero_le _⟩ dX0_step_64 (fun H locs hP hD hS => ?_) rfl
    exact hret _ _ _ _ _ dX0_step_67 rfl hP hD hS
  · have hk : h + 4 ≤ 64 := hk
    refine lv_aload_n hx hb dX0_step_0 rfl (lv_at hl 0 rfl) ?_
    refine va_get (D := D) (ci := 0) (v := .int (nI 5)) (C := RX0) (T := TX0) (N := 11) hx hb hts inX0 hown hK hP 0 rfl rfl 2 (by decide) k_32 (fun _ h9 => h9) rfl dX0_step_1 ?_
    refine lv_tableIn (tgt := 68) hx hb dX0_step_4 (by decide) (by decide) rfl (by decide) ?_
    refine lv_aload_n hx hb dX0_step_68 rfl (lv_at hl 0 rfl) ?_
    refine kCallI (As := []) (wc := [(q, .inr (0, [.ref ro, .ref pa, .int (nI 5), .int ds, .int en, .int pl, .int (nI h), .int gv, .int rp, .int mk, .int la])), (ro, .inr (1, [.ref rb, .int sz])), (rb, .inl (cI, 64, .inl g))]) (wr := [(pa, .inl (cI, 32, .inl pf))]) (ws' := [(q, .inr (0, [.ref ro, .ref pa, .int (nI 5), .int ds, .int en, .int pl, .int (nI h), .int gv, .int ((cPower en pl rp h g).2.1), .int mk, .int la])), (ro, .inr (1, [.ref rb, .int sz])), (rb, .inl (cI, 64, .inl ((cPower en pl rp h g).2.2))), (pa, .inl (cI, 32, .inl pf))]) (ci := 0) (C := RX0) ⟨hx, hb, hml, hown, hts⟩ (c_X0_stepPower l D cI cF cJ q ro pa rb h (nI 5) ds en pl gv rp mk la sz g (by omega)) (cwV 0 hts gX0_step_X0_stepPower rfl rfl rfl (by decide +kernel) ⟨Nat.le_of_ble_eq_true rfl, Nat.le_of_ble_eq_true rfl⟩) hK hP hD hS hA [0, 1, 2] [3] [1, 2, 3, 0] rfl rfl rfl rfl (by decide) rfl rfl rfl rfl rfl hl.1 (Nat.le_of_ble_eq_true rfl) ⟨Nat.zero_le _, Nat.zero_le _⟩ dX0_step_69 (fun H locs hP hD hS => ?_) rfl
    exact hret _ _ _ _ _ dX0_step_72 rfl hP hD hS
  · have hk : h + 4 ≤ 64 := hk
    refine lv_aload_n hx hb dX0_step_0 rfl (lv_at hl 0 rfl) ?_
    refine va_get (D := D) (ci := 0) (v := .int (nI 6)) (C := RX0) (T := TX0) (N := 11) hx hb hts inX0 hown hK hP 0 rfl rfl 2 (by decide) k_32 (fun _ h9 => h9) rfl dX0_step_1 ?_
    refine lv_tableIn (tgt := 73) hx hb dX0_step_4 (by decide) (by decide) rfl (by decide) ?_
    refine lv_aload_n hx hb dX0_step_73 rfl (lv_at hl 0 rfl) ?_
    refine kCallI (As := []) (wc := [(q, .inr (0, [.ref ro, .ref pa, .int (nI 6), .int ds, .int en, .int pl, .int (nI h), .int gv, .int rp, .int mk, .int la])), (ro, .inr (1, [.ref rb, .int sz])), (rb, .inl (cI, 64, .inl g))]) (wr := [(pa, .inl (cI, 32, .inl pf))]) (ws' := [(q, .inr (0, [.ref ro, .ref pa, .int (nI 6), .int ds, .int en, .int pl, .int (nI h), .int gv, .int ((cSparc en pl rp h g).2.1), .int mk, .int la])), (ro, .inr (1, [.ref rb, .int sz])), (rb, .inl (cI, 64, .inl ((cSparc en pl rp h g).2.2))), (pa, .inl (cI, 32, .inl pf))]) (ci := 0) (C := RX0) ⟨hx, hb, hml, hown, hts⟩ (c_X0_stepSparc l D cI cF cJ q ro pa rb h (nI 6) ds en pl gv rp mk la sz g (by omega)) (cwV 0 hts gX0_step_X0_stepSparc rfl rfl rfl (by decide +kernel) ⟨Nat.le_of_ble_eq_true rfl, Nat.le_of_ble_eq_true rfl⟩) hK hP hD hS hA [0, 1, 2] [3] [1, 2, 3, 0] rfl rfl rfl rfl (by decide) rfl rfl rfl rfl rfl hl.1 (Nat.le_of_ble_eq_true rfl) ⟨Nat.zero_le _, Nat.zero_le _⟩ dX0_step_74 (fun H locs hP hD hS => ?_) rfl
    exact hret _ _ _ _ _ dX0_step_77 rfl hP hD hS
  · have hk : h + 8 ≤ 64 := hk
    refine lv_aload_n hx hb dX0_step_0 rfl (lv_at hl 0 rfl) ?_
    refine va_get (D := D) (ci := 0) (v := .int (nI 7)) (C := RX0) (T := TX0) (N := 11) hx hb hts inX0 hown hK hP 0 rfl rfl 2 (by decide) k_32 (fun _ h9 => h9) rfl dX0_step_1 ?_
    refine lv_tableIn (tgt := 78) hx hb dX0_step_4 (by decide) (by decide) rfl (by decide) ?_
    refine lv_aload_n hx hb dX0_step_78 rfl (lv_at hl 0 rfl) ?_
    refine kCallI (As := []) (wc := [(q, .inr (0, [.ref ro, .ref pa, .int (nI 7), .int ds, .int en, .int pl, .int (nI h), .int gv, .int rp, .int mk, .int la])), (ro, .inr (1, [.ref rb, .int sz])), (rb, .inl (cI, 64, .inl g))]) (wr := [(pa, .inl (cI, 32, .inl pf))]) (ws' := [(q, .inr (0, [.ref ro, .ref pa, .int (nI 7), .int ds, .int en, .int pl, .int (nI h), .int gv, .int ((cRisc en pl rp h g).2.1), .int mk, .int la])), (ro, .inr (1, [.ref rb, .int sz])), (rb, .inl (cI, 64, .inl ((cRisc en pl rp h g).2.2))), (pa, .inl (cI, 32, .inl pf))]) (ci := 0) (C := RX0) ⟨hx, hb, hml, hown, hts⟩ (c_X0_stepRisc l D cI cF cJ q ro pa rb h (nI 7) ds en pl gv rp mk la sz g (by omega)) (cwV 0 hts gX0_step_X0_stepRisc rfl rfl rfl (by decide +kernel) ⟨Nat.le_of_ble_eq_true rfl, Nat.le_of_ble_eq_true rfl⟩) hK hP hD hS hA [0, 1, 2] [3] [1, 2, 3, 0] rfl rfl rfl rfl (by decide) rfl rfl rfl rfl rfl hl.1 (Nat.le_of_ble_eq_true rfl) ⟨Nat.zero_le _, Nat.zero_le _⟩ dX0_step_79 (fun H locs hP hD hS => ?_) rfl
    exact hret _ _ _ _ _ dX0_step_82 rfl hP hD hS

set_option maxHeartbeats 4000000 in
set_option maxRecDepth 100000 in
/-- Filter.restart(st, e2) -/
theorem c_X0_restart (l : Launch) (D : va_G) (cI cF cJ : ClassId) (q ro pa rb : Nat) (kd ds en pl he gv rp mk la sz st e2 : Int32) (pf : Nat → Int32) (hz : e2 = 0 ∨ e2 = 1) : kV l yX0_restart wsX0_restart ({ frames := 1, cells := 0, slots := 0, locals := 20 }) D (kTy cI cF cJ) [.ref q, .int st, .int e2] [(q, .inr (0, [.ref ro, .ref pa, .int kd, .int ds, .int en, .int pl, .int he, .int gv, .int rp, .int mk, .int la])), (ro, .inr (1, [.ref rb, .int sz])), (pa, .inl (cI, 32, .inl pf))] [(q, .inr (0, [.ref ro, .ref pa, .int kd, .int ds, .int e2, .int st, .int he, .int 0, .int 0, .int 0, .int (st - 5)])), (ro, .inr (1, [.ref rb, .int 0])), (pa, .inl (cI, 32, .inl (zr pf 32)))] := by
  refine kV_of (cc := cX0_restart) (nL := 4) (own := RX0) (lv := [(0, .ref q), (1, .int st), (2, .int e2)]) (by decide) rfl rfl (Nat.le_of_ble_eq_true rfl) rfl ?_
  intro p e s m args below meth c A ls Q C hA hK hP hD hS hl hret
  obtain ⟨hx, hb, hr, hml, hown, hts, hlocks⟩ := C
  have k_14 := hts (.fieldLink RX0 14 "BranchFilters$Filter" "held" "LBranchFilters$Row;") (by decide +kernel)
  have k_20 := hts (.fieldLink RX0 20 "BranchFilters$Filter" "past" "[I") (by decide +kernel)
  have k_38 := hts (.fieldLink RX0 38 "BranchFilters$Filter" "encoding" "Z") (by decide +kernel)
  have k_42 := hts (.fieldLink RX0 42 "BranchFilters$Filter" "place" "I") (by decide +kernel)
  have k_45 := hts (.fieldLink RX0 45 "BranchFilters$Filter" "given" "I") (by decide +kernel)
  have k_48 := hts (.fieldLink RX0 48 "BranchFilters$Filter" "replaced" "I") (by decide +kernel)
  have k_51 := hts (.fieldLink RX0 51 "BranchFilters$Filter" "mask" "I") (by decide +kernel)
  have k_54 := hts (.fieldLink RX0 54 "BranchFilters$Filter" "last" "I") (by decide +kernel)
  have inX0 : ∀ w ∈ wsX00, w ∈ wsX0_restart := by decide +kernel
  refine lv_aload_n hx hb dX0_restart_0 rfl (lv_at hl 0 rfl) ?_
  refine va_get (D := D) (ci := 0) (v := .ref ro) (C := RX0) (T := TX0) (N := 11) hx hb hts inX0 hown hK hP 0 rfl rfl 0 (by decide) k_14 (fun _ h9 => h9) rfl dX0_restart_1 ?_
  refine kCallV (As := []) (wc := [(ro, .inr (1, [.ref rb, .int sz]))]) (wr := [(q, .inr (0, [.ref ro, .ref pa, .int kd, .int ds, .int en, .int pl, .int he, .int gv, .int rp, .int mk, .int la])), (pa, .inl (cI, 32, .inl pf))]) (ws' := [(q, .inr (0, [.ref ro, .ref pa, .int kd, .int ds, .int en, .int pl, .int he, .int gv, .int rp, .int mk, .int la])), (ro, .inr (1, [.ref rb, .int 0])), (pa, .inl (cI, 32, .inl pf))]) (ci := 1) (C := RX1) ⟨hx, hb, hml, hown, hts⟩ (c_X1_clear l D cI cF cJ ro rb sz ) (cwV 0 hts gX0_restart_X1_clear rfl rfl rfl (by decide +kernel) ⟨Nat.le_of_ble_eq_true rfl, Nat.le_of_ble_eq_true rfl⟩) hK hP hD hS hA [1] [0, 2] [0, 2, 1] rfl rfl rfl rfl (by decide) rfl rfl rfl rfl rfl hl.1 (Nat.le_of_ble_eq_true rfl) ⟨Nat.zero_le _, Nat.zero_le _⟩ dX0_restart_4 (fun H locs hP hD hS => ?_) rfl
  refine lv_iconst (v := 0) hx hb dX0_restart_7 (by decide) ?_
  refine lv_istore_n (lv' := [(3, .int 0), (0, .ref q), (1, .int st), (2, .int e2)]) hx hb dX0_restart_8 rfl hl (by decide) rfl (fun ls hl => ?_)
  have loop : ∀ (K : Nat) (j : Nat) (hj : j + K = 32) (H : Heap) (locs : List Loc) (ls : Array Slot), va_P D vwCl [(q, .inr (0, [.ref ro, .ref pa, .int kd, .int ds, .int en, .int pl, .int he, .int gv, .int rp, .int mk, .int la])), (ro, .inr (1, [.ref rb, .int 0])), (pa, .inl (cI, 32, .inl (zr pf j)))] H → va_D A [(q, .inr (0, [.ref ro, .ref pa, .int kd, .int ds, .int en, .int pl, .int he, .int gv, .int rp, .int mk, .int la])), (ro, .inr (1, [.ref rb, .int 0])), (pa, .inl (cI, 32, .inl (zr pf j)))] → va_S A s.heap H locs → lv_has ls 4 [(0, .ref q), (1, .int st), (2, .int e2), (3, .int (nI j))] → W p l e ({ frames := 1, cells := 0, slots := 0, locals := 20 }) s m args below meth c H locs 0 0 Q (F0 m 9 ls []) := by
    intro K
    induction K with
    | zero =>
      intro j hj H locs ls hP hD hS hl
      obtain rfl : j = 32 := by omega
      refine lv_iload_n hx hb dX0_restart_9 rfl (lv_at hl 3 rfl) ?_
      refine lv_bipush (v := 32) hx hb dX0_restart_10 (by decide) ?_
      refine lv_icmp_ge (tgt := 28) hx hb dX0_restart_12 (by decide) (fun c_1 => ?_) (fun c_1 => ?_)
      · refine lv_aload_n hx hb dX0_restart_28 rfl (lv_at hl 0 rfl) ?_
        refine lv_iload_n hx hb dX0_restart_29 rfl (lv_at hl 2 rfl) ?_
        refine kPut (D := D) (ci := 0) (v := .int e2) (ty := .boolean) (C := RX0) (T := TX0) (N := 11) (ws' := [(q, .inr (0, [.ref ro, .ref pa, .int kd, .int ds, .int e2, .int pl, .int he, .int gv, .int rp, .int mk, .int la])), (ro, .inr (1, [.ref rb, .int 0])), (pa, .inl (cI, 32, .inl (zr pf 32)))]) hx hb hts inX0 tyX0 tyX0_ok nmX0 hown hK hP hD hS 0 rfl rfl 4 (by decide) k_38 rfl (by decide +kernel) (kZn hz) (kZf hz) (Nat.le_of_ble_eq_true rfl) rfl dX0_restart_30 (fun H locs hP hD hS => ?_)
        refine lv_aload_n hx hb dX0_restart_33 rfl (lv_at hl 0 rfl) ?_
        refine lv_iload_n hx hb dX0_restart_34 rfl (lv_at hl 1 rfl) ?_
        refine kPut (D := D) (ci := 0) (v := .int st) (ty := .int) (C := RX0) (T := TX0) (N := 11) (ws' := [(q, .inr (0, [.ref ro, .ref pa, .int kd, .int ds, .int e2, .int st, .int he, .int gv, .int rp, .int mk, .int la])), (ro, .inr (1, [.ref rb, .int 0])), (pa, .inl (cI, 32, .inl (zr pf 32)))]) hx hb hts inX0 tyX0 tyX0_ok nmX0 hown hK hP hD hS 0 rfl rfl 5 (by decide) k_42 rfl (by decide +kernel) (rfl) (by first | rfl | decide) (Nat.le_of_ble_eq_true rfl) rfl dX0_restart_35 (fun H locs hP hD hS => ?_)
        refine lv_aload_n hx hb dX0_restart_38 rfl (lv_at hl 0 rfl) ?_
        refine lv_iconst (v := 0) hx hb dX0_restart_39 (by decide) ?_
        refine kPut (D := D) (ci := 0) (v := .int 0) (ty := .int) (C := RX0) (T := TX0) (N := 11) (ws' := [(q, .inr (0, [.ref ro, .ref pa, .int kd, .int ds, .int e2, .int st, .int he, .int 0, .int rp, .int mk, .int la])), (ro, .inr (1, [.ref rb, .int 0])), (pa, .inl (cI, 32, .inl (zr pf 32)))]) hx hb hts inX0 tyX0 tyX0_ok nmX0 hown hK hP hD hS 0 rfl rfl 7 (by decide) k_45 rfl (by decide +kernel) (rfl) (by first | rfl | decide) (Nat.le_of_ble_eq_true rfl) rfl dX0_restart_40 (fun H locs hP hD hS => ?_)
        refine lv_aload_n hx hb dX0_restart_43 rfl (lv_at hl 0 rfl) ?_
        refine lv_iconst (v := 0) hx hb dX0_restart_44 (by decide) ?_
        refine kPut (D := D) (ci := 0) (v := .int 0) (ty := .int) (C := RX0) (T := TX0) (N := 11) (ws' := [(q, .inr (0, [.ref ro, .ref pa, .int kd, .int ds, .int e2, .int st, .int he, .int 0, .int 0, .int mk, .int la])), (ro, .inr (1, [.ref rb, .int 0])), (pa, .inl (cI, 32, .inl (zr pf 32)))]) hx hb hts inX0 tyX0 tyX0_ok nmX0 hown hK hP hD hS 0 rfl rfl 8 (by decide) k_48 rfl (by decide +kernel) (rfl) (by first | rfl | decide) (Nat.le_of_ble_eq_true rfl) rfl dX0_restart_45 (fun H locs hP hD hS => ?_)
        refine lv_aload_n hx hb dX0_restart_48 rfl (lv_at hl 0 rfl) ?_
        refine lv_iconst (v := 0) hx hb dX0_restart_49 (by decide) ?_
        refine kPut (D := D) (ci := 0) (v := .int 0) (ty := .int) (C := RX0) (T := TX0) (N := 11) (ws' := [(q, .inr (0, [.ref ro, .ref pa, .int kd, .int ds, .int e2, .int st, .int he, .int 0, .int 0, .int 0, .int la])), (ro, .inr (1, [.ref rb, .int 0])), (pa, .inl (cI, 32, .inl (zr pf 32)))]) hx hb hts inX0 tyX0 tyX0_ok nmX0 hown hK hP hD hS 0 rfl rfl 9 (by decide) k_51 rfl (by decide +kernel) (rfl) (by first | rfl | decide) (Nat.le_of_ble_eq_true rfl) rfl dX0_restart_50 (fun H locs hP hD hS => ?_)
        refine lv_aload_n hx hb dX0_restart_53 rfl (lv_at hl 0 rfl) ?_
        refine lv_iload_n hx hb dX0_restart_54 rfl (lv_at hl 1 rfl) ?_
        refine lv_iconst (v := 5) hx hb dX0_restart_55 (by decide) ?_
        refine lv_isub hx hb dX0_restart_56 ?_
        refine kPut (D := D) (ci := 0) (v := .int (st - 5)) (ty := .int) (C := RX0) (T := TX0) (N := 11) (ws' := [(q, .inr (0, [.ref ro, .ref pa, .int kd, .int ds, .int e2, .int st, .int he, .int 0, .int 0, .int 0, .int (st - 5)])), (ro, .inr (1, [.ref rb, .int 0])), (pa, .inl (cI, 32, .inl (zr pf 32)))]) hx hb hts inX0 tyX0 tyX0_ok nmX0 hown hK hP hD hS 0 rfl rfl 10 (by decide) k_54 rfl (by decide +kernel) (rfl) (by first | rfl | decide) (Nat.le_of_ble_eq_true rfl) rfl dX0_restart_57 (fun H locs hP hD hS => ?_)
        exact hret _ _ _ _ dX0_restart_60 (hP) (hD) hS
      · exact absurd ((kLe (a := 32) (b := 32) rfl rfl (by omega) (by omega)).mpr (by omega)) c_1
    | succ K ih =>
      intro j hj H locs ls hP hD hS hl
      refine lv_iload_n hx hb dX0_restart_9 rfl (lv_at hl 3 rfl) ?_
      refine lv_bipush (v := 32) hx hb dX0_restart_10 (by decide) ?_
      refine lv_icmp_ge (tgt := 28) hx hb dX0_restart_12 (by decide) (fun c_2 => ?_) (fun c_2 => ?_)
      · exact absurd ((kLe (a := 32) (b := j) rfl rfl (by omega) (by omega)).mp c_2) (by omega)
      · refine lv_aload_n hx hb dX0_restart_15 rfl (lv_at hl 0 rfl) ?_
        refine va_get (D := D) (ci := 0) (v := .ref pa) (C := RX0) (T := TX0) (N := 11) hx hb hts inX0 hown hK hP 0 rfl rfl 1 (by decide) k_20 (fun _ h9 => h9) rfl dX0_restart_16 ?_
        refine lv_iload_n hx hb dX0_restart_19 rfl (lv_at hl 3 rfl) ?_
        refine lv_iconst (v := 0) hx hb dX0_restart_20 (by decide) ?_
        refine kIast (k := j) (ws' := [(q, .inr (0, [.ref ro, .ref pa, .int kd, .int ds, .int en, .int pl, .int he, .int gv, .int rp, .int mk, .int la])), (ro, .inr (1, [.ref rb, .int 0])), (pa, .inl (cI, 32, .inl (upd (zr pf j) j 0)))]) hx hb hK hP hD hS 2 0 rfl rfl (rfl) (by omega) (by omega) rfl dX0_restart_21 (fun H locs hP hD hS => ?_)
        refine lv_iinc (v := nI (j + 1)) (lv' := [(3, .int (nI (j + 1))), (0, .ref q), (1, .int st), (2, .int e2)]) hx hb dX0_restart_22 hl (k := 3) rfl (nI_1 _) (by decide) rfl (fun ls hl => ?_)
        refine lv_goto (tgt := 9) hx hb dX0_restart_25 (by decide) ?_
        exact ih (j + 1) (by omega) _ _ _ hP hD hS (lv_sub hl [1, 2, 3, 0] rfl)
  exact loop 32 0 (by omega) _ _ _ hP hD hS (lv_sub hl [1, 2, 3, 0] rfl)

set_option maxHeartbeats 4000000 in
set_option maxRecDepth 100000 in
/-- Filter.giveRest(w) -/
theorem c_X0_giveRest (l : Launch) (D : va_G) (cI cF cJ : ClassId) (q ro pa rb w wb n k : Nat) (kd ds en pl he gv rp mk la : Int32) (g f : Nat → Int32) (h1 : n ≤ 64) (h2 : k + n ≤ 64) : kV l yX0_giveRest wsX0_giveRest ({ frames := 2, cells := 0, slots := 0, locals := 82 }) D (kTy cI cF cJ) [.ref q, .ref w] [(q, .inr (0, [.ref ro, .ref pa, .int kd, .int ds, .int en, .int pl, .int he, .int gv, .int rp, .int mk, .int la])), (ro, .inr (1, [.ref rb, .int (nI n)])), (rb, .inl (cI, 64, .inl g)), (w, .inr (1, [.ref wb, .int (nI k)])), (wb, .inl (cI, 64, .inl f))] [(q, .inr (0, [.ref ro, .ref pa, .int kd, .int ds, .int en, .int (pl + nI n), .int he, .int (gv + nI n), .int rp, .int mk, .int la])), (ro, .inr (1, [.ref rb, .int (nI (n - n))])), (rb, .inl (cI, 64, .inl (va_cpy g g n 0 (n - n)))), (w, .inr (1, [.ref wb, .int (nI (k + n))])), (wb, .inl (cI, 64, .inl (va_cpy g f 0 k n)))] := by
  refine kV_of (cc := cX0_giveRest) (nL := 3) (own := RX0) (lv := [(0, .ref q), (1, .ref w)]) (by decide) rfl rfl (Nat.le_of_ble_eq_true rfl) rfl ?_
  intro p e s m args below meth c A ls Q C hA hK hP hD hS hl hret
  obtain ⟨hx, hb, hr, hml, hown, hts, hlocks⟩ := C
  have k_14 := hts (.fieldLink RX0 14 "BranchFilters$Filter" "held" "LBranchFilters$Row;") (by decide +kernel)
  have k_42 := hts (.fieldLink RX0 42 "BranchFilters$Filter" "place" "I") (by decide +kernel)
  have k_45 := hts (.fieldLink RX0 45 "BranchFilters$Filter" "given" "I") (by decide +kernel)
  have inX0 : ∀ w ∈ wsX00, w ∈ wsX0_giveRest := by decide +kernel
  refine lv_aload_n hx hb dX0_giveRest_0 rfl (lv_at hl 0 rfl) ?_
  refine va_get (D := D) (ci := 0) (v := .ref ro) (C := RX0) (T := TX0) (N := 11) hx hb hts inX0 hown hK hP 0 rfl rfl 0 (by decide) k_14 (fun _ h9 => h9) rfl dX0_giveRest_1 ?_
  refine kCallI (As := []) (wc := [(ro, .inr (1, [.ref rb, .int (nI n)]))]) (wr := [(q, .inr (0, [.ref ro, .ref pa, .int kd, .int ds, .int en, .int pl, .int he, .int gv, .int rp, .int mk, .int la])), (rb, .inl (cI, 64, .inl g)), (w, .inr (1, [.ref wb, .int (nI k)])), (wb, .inl (cI, 64, .inl f))]) (ws' := [(q, .inr (0, [.ref ro, .ref pa, .int kd, .int ds, .int en, .int pl, .int he, .int gv, .int rp, .int mk, .int la])), (ro, .inr (1, [.ref rb, .int (nI n)])), (rb, .inl (cI, 64, .inl g)), (w, .inr (1, [.ref wb, .int (nI k)])), (wb, .inl (cI, 64, .inl f))]) (ci := 1) (C := RX1) ⟨hx, hb, hml, hown, hts⟩ (c_X1_size l D cI cF cJ ro rb (nI n) ) (cwV 0 hts gX0_giveRest_X1_size rfl rfl rfl (by decide +kernel) ⟨Nat.le_of_ble_eq_true rfl, Nat.le_of_ble_eq_true rfl⟩) hK hP hD hS hA [1] [0, 2, 3, 4] [0, 4, 1, 2, 3] rfl rfl rfl rfl (by decide) rfl rfl rfl rfl rfl hl.1 (Nat.le_of_ble_eq_true rfl) ⟨Nat.zero_le _, Nat.zero_le _⟩ dX0_giveRest_4 (fun H locs hP hD hS => ?_) rfl
  refine lv_istore_n (lv' := [(2, .int (nI n)), (0, .ref q), (1, .ref w)]) hx hb dX0_giveRest_7 rfl hl (by decide) rfl (fun ls hl => ?_)
  refine lv_aload_n hx hb dX0_giveRest_8 rfl (lv_at hl 1 rfl) ?_
  refine lv_dup hx hb dX0_giveRest_9 rfl ?_
  refine va_get (D := D) (ci := 0) (v := .int pl) (C := RX0) (T := TX0) (N := 11) hx hb hts inX0 hown hK hP 0 rfl rfl 5 (by decide) k_42 (fun _ h9 => h9) rfl dX0_giveRest_10 ?_
  refine lv_iload_n hx hb dX0_giveRest_13 rfl (lv_at hl 0 rfl) ?_
  refine lv_iadd hx hb dX0_giveRest_14 ?_
  refine kPut (D := D) (ci := 0) (v := .int (pl + (nI n))) (ty := .int) (C := RX0) (T := TX0) (N := 11) (ws' := [(q, .inr (0, [.ref ro, .ref pa, .int kd, .int ds, .int en, .int (pl + (nI n)), .int he, .int gv, .int rp, .int mk, .int la])), (ro, .inr (1, [.ref rb, .int (nI n)])), (rb, .inl (cI, 64, .inl g)), (w, .inr (1, [.ref wb, .int (nI k)])), (wb, .inl (cI, 64, .inl f))]) hx hb hts inX0 tyX0 tyX0_ok nmX0 hown hK hP hD hS 0 rfl rfl 5 (by decide) k_42 rfl (by decide +kernel) (rfl) (by first | rfl | decide) (Nat.le_of_ble_eq_true rfl) rfl dX0_giveRest_15 (fun H locs hP hD hS => ?_)
  refine lv_aload_n hx hb dX0_giveRest_18 rfl (lv_at hl 1 rfl) ?_
  refine lv_dup hx hb dX0_giveRest_19 rfl ?_
  refine va_get (D := D) (ci := 0) (v := .int gv) (C := RX0) (T := TX0) (N := 11) hx hb hts inX0 hown hK hP 0 rfl rfl 7 (by decide) k_45 (fun _ h9 => h9) rfl dX0_giveRest_20 ?_
  refine lv_iload_n hx hb dX0_giveRest_23 rfl (lv_at hl 0 rfl) ?_
  refine lv_iadd hx hb dX0_giveRest_24 ?_
  refine kPut (D := D) (ci := 0) (v := .int (gv + (nI n))) (ty := .int) (C := RX0) (T := TX0) (N := 11) (ws' := [(q, .inr (0, [.ref ro, .ref pa, .int kd, .int ds, .int en, .int (pl + (nI n)), .int he, .int (gv + (nI n)), .int rp, .int mk, .int la])), (ro, .inr (1, [.ref rb, .int (nI n)])), (rb, .inl (cI, 64, .inl g)), (w, .inr (1, [.ref wb, .int (nI k)])), (wb, .inl (cI, 64, .inl f))]) hx hb hts inX0 tyX0 tyX0_ok nmX0 hown hK hP hD hS 0 rfl rfl 7 (by decide) k_45 rfl (by decide +kernel) (rfl) (by first | rfl | decide) (Nat.le_of_ble_eq_true rfl) rfl dX0_giveRest_25 (fun H locs hP hD hS => ?_)
  refine lv_aload_n hx hb dX0_giveRest_28 rfl (lv_at hl 1 rfl) ?_
  refine va_get (D := D) (ci := 0) (v := .ref ro) (C := RX0) (T := TX0) (N := 11) hx hb hts inX0 hown hK hP 0 rfl rfl 0 (by decide) k_14 (fun _ h9 => h9) rfl dX0_giveRest_29 ?_
  refine lv_aload_n hx hb dX0_giveRest_32 rfl (lv_at hl 2 rfl) ?_
  refine lv_iload_n hx hb dX0_giveRest_33 rfl (lv_at hl 0 rfl) ?_
  refine kCallV (As := [.ref w, .int (nI n)]) (wc := [(ro, .inr (1, [.ref rb, .int (nI n)])), (rb, .inl (cI, 64, .inl g)), (w, .inr (1, [.ref wb, .int (nI k)])), (wb, .inl (cI, 64, .inl f))]) (wr := [(q, .inr (0, [.ref ro, .ref pa, .int kd, .int ds, .int en, .int (pl + (nI n)), .int he, .int (gv + (nI n)), .int rp, .int mk, .int la]))]) (ws' := [(q, .inr (0, [.ref ro, .ref pa, .int kd, .int ds, .int en, .int (pl + (nI n)), .int he, .int (gv + (nI n)), .int rp, .int mk, .int la])), (ro, .inr (1, [.ref rb, .int (nI (n - n))])), (rb, .inl (cI, 64, .inl (va_cpy g g n 0 (n - n)))), (w, .inr (1, [.ref wb, .int (nI (k + n))])), (wb, .inl (cI, 64, .inl (va_cpy g f 0 k n)))]) (ci := 1) (C := RX1) ⟨hx, hb, hml, hown, hts⟩ (c_X1_moveTo l D cI cF cJ ro rb w wb 64 64 n k n g f (by omega) (by omega) (by omega) (by omega) (by omega)) (cwV 2 hts gX0_giveRest_X1_moveTo rfl rfl rfl (by decide +kernel) ⟨Nat.le_of_ble_eq_true rfl, Nat.le_of_ble_eq_true rfl⟩) hK hP hD hS hA [1, 2, 3, 4] [0] [0, 1, 2, 3, 4] rfl rfl rfl rfl (by decide) rfl rfl rfl rfl rfl hl.1 (Nat.le_of_ble_eq_true rfl) ⟨Nat.zero_le _, Nat.zero_le _⟩ dX0_giveRest_34 (fun H locs hP hD hS => ?_) rfl
  exact hret _ _ _ _ dX0_giveRest_37 (hP) (hD) hS
end
section
/-! what the Statement gives of things that no cell of the worlds holds: the table NEEDED, Throwable's two statics, texts, words that warm up -/
def cNd (j : Nat) : Value := .int (nI (cNeed j))
abbrev kE1 : String := "java/lang/IllegalArgumentException"
abbrev kE2 : String := "java/lang/IllegalStateException"
abbrev kE3 : String := "java/lang/IndexOutOfBoundsException"
def kCs : List (String × String) := [(kE1, kE1), (kE2, kE2), (kE3, kE3)]
def kDs : List MethodName := [Bundle.initS "java/lang/RuntimeException", Bundle.initS "java/lang/Exception", Bundle.initS Bundle.tN]
def kSs : List (Nat × String) := [(34, "no such filter"), (39, "no such kind"), (41, "no such distance"), (54, "not 0 to 16 bytes"), (61, "finished"), (66, "too many bytes"), (101, "no such count"), (105, "not all four bytes are there")]
def kN (U : State) : Prop := (∀ q ∈ kCs, va_Nw (.castable q.1 q.2) U) ∧ (∀ q ∈ kDs, va_Nw (.declares q) U) ∧ (∀ q ∈ kSs, ∃ sa, vk_R RX2 q.1 q.2 sa U) ∧ va_Nc kE2 kE1 U
theorem kN.warm {s U : State} (hW : s.WarmedH U.vm) (h : kN s) : kN U :=
  ⟨fun q hq => va_Nw.warmC hW (h.1 q hq), fun q hq => va_Nw.warmD hW (h.2.1 q hq), fun q hq => (h.2.2.1 q hq).imp fun _ h => vk_R.warm hW h, h.2.2.2.moved hW.alike⟩
def kG (nd : Nat) (A : Nat → Prop) (U : State) : Prop :=
  va_Z RX0 "NEEDED" "[I" (.ref nd) A U U.heap ∧ va_T .int nd 8 cNd A U U.heap ∧ vx_Zq Bundle.tN "UNASSIGNED_STACK" Bundle.steD A U U.heap ∧ vx_Zq Bundle.tN "SUPPRESSED_SENTINEL" Bundle.listD A U U.heap ∧ kN U
theorem kG.tr {nd : Nat} {A B : Nat → Prop} {s U : State} (h : kG nd A s) (hW : s.WarmedH U.vm) (hk : ∀ a : Nat, a < s.heap.size → ¬ A a → U.heap[a]? = s.heap[a]?) (hAB : ∀ q, B q → A q) : kG nd B U := by
  obtain ⟨h1, h2, h3, h4, h5⟩ := h
  exact ⟨((h1.kept hk).moved hW.alike).narrow hAB, ((h2.kept hk).moved hW.alike).narrow hAB, ((h3.kept hk).moved hW.alike).narrow hAB, ((h4.kept hk).moved hW.alike).narrow hAB, h5.warm hW⟩
def kPreG (nd : Nat) (D : va_G) (tys : List (ClassId × FieldType)) (w0 : va_W) (sz : Nat) (U : State) : Prop := kPre D tys w0 sz U ∧ kG nd (va_A w0 sz) U
theorem kPreG_blind {nd : Nat} {D : va_G} {tys : List (ClassId × FieldType)} {w0 : va_W} {sz : Nat} {av : List Value} : FrameBlind (va_Pc av (kPreG nd D tys w0 sz)) := by
  intro a U g mk q
  obtain ⟨q0, ⟨q1, qP, qK, qD⟩, qG⟩ := q
  exact ⟨q0, ⟨q1, qP, va_K.moved (u := U) (U := U.calling g mk a) (Vm.Alike.refl U.vm) qK, qD⟩, qG.tr (State.WarmedH.refl U) (fun _ _ _ => rfl) (fun _ h => h)⟩
/-- a void method that makes nothing, over the given things -/
def kVG (nd : Nat) (l : Launch) (y : MethodName) (wy : List Cond) (rm : Room) (D : va_G) (tys : List (ClassId × FieldType)) (av : List Value) (w0 w1 : va_W) : Prop :=
  ∀ sz : Nat, Met l y wy rm (va_Pc av (kPreG nd D tys w0 sz)) (va_Qv (fun (_ : Unit) => True) (fun _ t => kAt D tys (va_A w0 sz) w1 t) (va_A w0 sz)) 0 0 (va_A w0 sz)
theorem kVG_of {nd : Nat} {l : Launch} {y : MethodName} {wy wy' : List Cond} {rm : Room} {D : va_G} {tys : List (ClassId × FieldType)} {av : List Value} {w0 w1 : va_W} {cc : ByteArray} {nL : Nat} {own : String} {lv : List (Nat × Value)}
    (hy : plainName y.cls = true) (ho : y.cls = own) (hw : wy = Cond.code y cc nL none :: wy') (hlen : (lg_sl av).length ≤ nL) (hlv : lv_args 0 av = lv)
    (body : ∀ (p : Program) (e : Env) (s : State) (m : MethodId) (args : Array Value) (below : List Frame) (meth : Method) (c : Code) (A : Nat → Prop) (ls : Array Slot) (Q : State → Prop), kSt p l rm s m args meth c cc nL none wy own → (∀ q : Nat, s.heap.size ≤ q → A q) → kG nd A s →
      va_K D vwCl tys s → va_P D vwCl w0 s.heap → va_D A w0 → va_S A s.heap s.heap [] → lv_has ls nL lv →
      (∀ (H1 : Heap) (locs1 : List Loc) (ls1 : Array Slot) (pc1 : Nat), decode cc pc1 = .ok (.return_, 1) → va_P D vwCl w1 H1 → va_D A w1 → va_S A s.heap H1 locs1 → W p l e rm s m args below meth c H1 locs1 0 0 Q (F0 m pc1 ls1 [])) →
      W p l e rm s m args below meth c s.heap [] 0 0 Q (F0 m 0 ls [])) : kVG nd l y wy rm D tys av w0 w1 := by
  intro sz
  refine Met.ofW (cc := cc) (maxL := nL) (ret := none) hy hw ?_
  intro p e s m args below meth c s₁ B hml hv
  obtain ⟨rfl, ⟨hsz, hP, hK, hD0⟩, hG⟩ := hv
  subst hsz
  have hD := hD0.self (sz := s.heap.size)
  have hl := lv_entry av (n := nL) hlen
  rw [lg_entry_eq]
  rw [hlv] at hl
  refine body p e s m _ below meth c _ _ _ ⟨B.exec, B.bytes, B.returns, hml, by rw [← ho]; exact findClass_of_methodNamed B.named, atoms_spec (ws := wy) B.pre, B.notSynchronized⟩ (fun q h => Or.inr h) hG hK hP hD va_S.rf hl ?_
  intro H1 locs1 ls1 pc1 hdg hP1 hD1 hS1
  exact W.vret B.exec B.bytes B.returns (fun t ht hW => ⟨⟨(), rfl, trivial, by rw [ht]; exact hP1, va_K.moved hW.alike hK, hD1⟩, hS1.F ht⟩) hS1.2.2 hdg B.notSynchronized
section KG
variable {p : Program} {l : Launch} {e : Env} {R : Room} {s : State} {m : MethodId} {args : Array Value} {below : List Frame} {meth : Method} {c : Code} {H : Heap} {locs : List Loc} {cells slots : Nat} {Q : State → Prop}
variable {cc : ByteArray} {pc : Nat} {ls : Array Slot} {rest : List Value} {D : va_G} {tys : List (ClassId × FieldType)} {A : Nat → Prop} {ws : va_W} {a nd : Nat}
variable {wc wr w1 ws' : va_W} {y : MethodName} {bytes : ByteArray} {maxL nL n index ci : Nat} {ret : Option FieldType} {wy Ts : List Cond} {rm : Room} {own C : String} {b : Addr} {As : List Value} {fs : List Value} {T : u_T} {N : Nat}
theorem kCallVG (hG : kG nd A s) (S : CallFix p m c cc nL s args Ts own) (hM : kVG nd l y wy rm D tys (.ref b :: As) wc w1) (cw : CallW R s args own C index y bytes maxL ret wy rm 0 0 n)
    (hK : va_K D vwCl tys s) (hP : va_P D vwCl ws H) (hD : va_D A ws) (hS : va_S A s.heap H locs) (hA : ∀ q, s.heap.size ≤ q → A q) (isC isR perm : List Nat)
    (hC : isC.map (fun i => ws[i]?) = wc.map some) (hnC : va_nd isC = true) (hR : isR.map (fun i => ws[i]?) = wr.map some) (hn : va_nd isR = true) (hdis : ∀ i ∈ isR, i ∉ isC) (hpm : perm.map (fun i => (wr ++ w1)[i]?) = ws'.map some) (hnp : va_nd perm = true)
    (hc : vwCl[ci]? = some (C, T, N)) (he : wc[0]? = some (b, .inr (ci, fs))) (hAs : As.length = n) (hsize : ls.size = nL) (hW : (rest.map fun v => v.category).sum ≤ 8) (hf : cells ≤ R.cells ∧ slots ≤ R.slots) (hdg : decode cc pc = .ok (.invokevirtual index, 3))
    (kk : ∀ (H1 : Heap) (locs1 : List Loc), va_P D vwCl ws' H1 → va_D A ws' → va_S A s.heap H1 locs1 → W p l e R s m args below meth c H1 locs1 cells slots Q (F0 m (pc + 3) ls rest)) {st0 : List Value} (hst : st0 = As.reverse ++ .ref b :: rest) : W p l e R s m args below meth c H locs cells slots Q (F0 m pc ls st0) := by
  have hCf : isC.filterMap (fun i => ws[i]?) = wc := kFm _ _ _ hC
  have hPc := hP.sub isC hCf
  have hDc := hD.sub isC hnC hC
  have hFc := va_free hD hS hA isC hC
  subst hst
  refine va_callv (va_runV (As := As) (rest := rest) S (hM H.size) cw ⟨kPreG_blind, va_recv hK hPc hc he, fun U hU hW => ⟨rfl, ⟨by rw [hU], by rw [hU]; exact hPc, va_K.moved hW.alike hK, hDc.weaken (fun _ _ _ _ => trivial)⟩, hG.tr hW (fun a h1 h2 => by rw [hU]; exact hS.2.1 a h1 h2) hFc⟩⟩ rfl hAs hsize rfl (lv_room hW) hdg hf) hS (fun q _ h => hFc q h) hFc (fun u t H1 locs1 ht hvm hw hB hz1 hk1 hS1 => ?_)
  obtain ⟨hP1, hK1, hD1⟩ := hB
  rw [ht] at hP1
  obtain ⟨hP2, hD2⟩ := va_join hP hD isC isR hC hR hn hdis hk1 hFc hP1 hD1
  have hpf : perm.filterMap (fun i => (wr ++ w1)[i]?) = ws' := kFm _ _ _ hpm
  exact kk H1 locs1 (hP2.sub perm hpf) (hD2.sub perm hnp hpm) hS1
/-- the table NEEDED, asked -/
theorem kNeed (hx : p.tables.exec = Jvm.exec) (hb : c.code = cc) (hG : kG nd A s) (hS : va_S A s.heap H locs) {i : Int32} {k : Nat} (hi : i = nI k) (hk : k < 8) (hdg : decode cc pc = .ok (.iaload, 1))
    (kk : W p l e R s m args below meth c H locs cells slots Q (F0 m (pc + 1) ls (.int (nI (cNeed k)) :: rest))) : W p l e R s m args below meth c H locs cells slots Q (F0 m pc ls (.int i :: .ref nd :: rest)) := by
  subst hi
  refine va_ti hx hb hG.2.1 hS (vp_in_nI hk (by omega)) (v := .int (nI (cNeed k))) ?_ hdg kk
  rw [nI_clamp (by omega)]; rfl
end KG
theorem cNeed_le (k : Nat) : 1 ≤ cNeed k ∧ cNeed k ≤ 8 := by
  unfold cNeed; split <;> omega
theorem cStep_many (kn : Nat) (en pl ds rp mk la : Int32) (h : Nat) (g pf : Nat → Int32) : ∃ m : Nat, (cStep kn en pl ds rp mk la h g pf).1 = nI m ∧ 1 ≤ m ∧ m ≤ cNeed kn := by
  have hN := cNeed_le kn
  rcases kn with _ | _ | _ | _ | _ | _ | _ | k
  · exact ⟨1, rfl, by omega, hN.1⟩
  · refine ⟨1, ?_, by omega, hN.1⟩
    show (cDelta en pl ds h g pf).1 = nI 1
    unfold cDelta; split <;> rfl
  · show ∃ m : Nat, (cX86 en pl rp mk la h g).1 = nI m ∧ 1 ≤ m ∧ m ≤ 5
    unfold cX86
    repeat' split
    all_goals first | exact ⟨1, rfl, by omega, by omega⟩ | exact ⟨5, rfl, by omega, by omega⟩
  · show ∃ m : Nat, (cArm en pl rp h g).1 = nI m ∧ 1 ≤ m ∧ m ≤ 4
    unfold cArm
    repeat' split
    all_goals first | exact ⟨4, rfl, by omega, by omega⟩
  · show ∃ m : Nat, (cThumb en pl rp h g).1 = nI m ∧ 1 ≤ m ∧ m ≤ 4
    unfold cThumb
    repeat' split
    all_goals first | exact ⟨4, rfl, by omega, by omega⟩ | exact ⟨2, rfl, by omega, by omega⟩
  · show ∃ m : Nat, (cPower en pl rp h g).1 = nI m ∧ 1 ≤ m ∧ m ≤ 4
    unfold cPower
    repeat' split
    all_goals first | exact ⟨4, rfl, by omega, by omega⟩
  · show ∃ m : Nat, (cSparc en pl rp h g).1 = nI m ∧ 1 ≤ m ∧ m ≤ 4
    unfold cSparc
    repeat' split
    all_goals first | exact ⟨4, rfl, by omega, by omega⟩
  · show ∃ m : Nat, (cRisc en pl rp h g).1 = nI m ∧ 1 ≤ m ∧ m ≤ 8
    unfold cRisc
    repeat' split
    all_goals first | exact ⟨4, rfl, by omega, by omega⟩ | exact ⟨8, rfl, by omega, by omega⟩ | exact ⟨2, rfl, by omega, by omega⟩
end
section
/-! BranchFilters$Filter.pass -/

abbrev cRS : Type := Nat × Int32 × Int32 × Int32 × Int32 × (Nat → Int32) × (Nat → Int32)
/-- the state of the steps: here, place, how many put, MASK, LAST, the bytes, the past -/
def cNext (kn : Nat) (en ds : Int32) (s : cRS) : cRS :=
  (s.1 + (cStep kn en s.2.1 ds s.2.2.1 s.2.2.2.1 s.2.2.2.2.1 s.1 s.2.2.2.2.2.1 s.2.2.2.2.2.2).1.toNatClampNeg, s.2.1 + (cStep kn en s.2.1 ds s.2.2.1 s.2.2.2.1 s.2.2.2.2.1 s.1 s.2.2.2.2.2.1 s.2.2.2.2.2.2).1, (cStep kn en s.2.1 ds s.2.2.1 s.2.2.2.1 s.2.2.2.2.1 s.1 s.2.2.2.2.2.1 s.2.2.2.2.2.2).2)
def cRun (kn : Nat) (en ds : Int32) (N : Nat) : Nat → cRS → cRS
  | 0, s => s
  | K + 1, s => if s.1 + cNeed kn ≤ N then cRun kn en ds N K (cNext kn en ds s) else s
theorem cRun_go {kn : Nat} {en ds : Int32} {N K h m : Nat} {p r k l : Int32} {g f : Nat → Int32} (hh : h + cNeed kn ≤ N) (em : (cStep kn en p ds r k l h g f).1 = nI m) (hm : m ≤ 8) :
    cRun kn en ds N (K + 1) (h, p, r, k, l, g, f) = cRun kn en ds N K (h + m, p + nI m, (cStep kn en p ds r k l h g f).2) := by
  have e1 : cNext kn en ds (h, p, r, k, l, g, f) = (h + m, p + nI m, (cStep kn en p ds r k l h g f).2) := by
    show (h + (cStep kn en p ds r k l h g f).1.toNatClampNeg, p + (cStep kn en p ds r k l h g f).1, (cStep kn en p ds r k l h g f).2) = _
    rw [em, nI_clamp (by omega)]
  show (if h + cNeed kn ≤ N then cRun kn en ds N K (cNext kn en ds (h, p, r, k, l, g, f)) else _) = _
  rw [if_pos hh, e1]
theorem cRun_out {kn : Nat} {en ds : Int32} {N K h : Nat} {t : Int32 × Int32 × Int32 × Int32 × (Nat → Int32) × (Nat → Int32)} (hh : ¬ h + cNeed kn ≤ N) : cRun kn en ds N K (h, t) = (h, t) := by
  cases K with
  | zero => rfl
  | succ K => exact if_neg hh
theorem kEnd {N d h : Nat} (hN : N ≤ 64) (hd : d ≤ 8) (hh : h ≤ 64) : (nI N - nI d < nI h) ↔ N < h + d := by
  rw [Int32.lt_iff_toInt_lt, pk_sub_toInt (by omega) (by omega), nI_toInt (by omega)]
  omega

set_option maxHeartbeats 4000000 in
set_option maxRecDepth 100000 in
/-- Filter.pass(w) -/
theorem c_X0_pass (l : Launch) (D : va_G) (cI cF cJ : ClassId) (nd : Nat) (q ro pa rb w wb n k kn : Nat) (ds en pl he gv rp mk la : Int32) (g pf f : Nat → Int32) (hkn : kn < 8) (hN : n + k ≤ 64) : kVG nd l yX0_pass wsX0_pass ({ frames := 4, cells := 0, slots := 0, locals := 93 }) D (kTy cI cF cJ) [.ref q, .ref w] [(q, .inr (0, [.ref ro, .ref pa, .int (nI kn), .int ds, .int en, .int pl, .int he, .int gv, .int rp, .int mk, .int la])), (ro, .inr (1, [.ref rb, .int (nI n)])), (rb, .inl (cI, 64, .inl g)), (pa, .inl (cI, 32, .inl pf)), (w, .inr (1, [.ref wb, .int (nI k)])), (wb, .inl (cI, 64, .inl f))] [(q, .inr (0, [.ref ro, .ref pa, .int (nI kn), .int ds, .int en, .int ((cRun kn en ds (n + k) 64 (0, pl, rp, mk, la, va_cpy f g 0 n k, pf)).2.1), .int (nI (cRun kn en ds (n + k) 64 (0, pl, rp, mk, la, va_cpy f g 0 n k, pf)).1), .int (gv + nI (cRun kn en ds (n + k) 64 (0, pl, rp, mk, la, va_cpy f g 0 n k, pf)).1), .int ((cRun kn en ds (n + k) 64 (0, pl, rp, mk, la, va_cpy f g 0 n k, pf)).2.2.1), .int ((cRun kn en ds (n + k) 64 (0, pl, rp, mk, la, va_cpy f g 0 n k, pf)).2.2.2.1), .int ((cRun kn en ds (n + k) 64 (0, pl, rp, mk, la, va_cpy f g 0 n k, pf)).2.2.2.2.1)])), (ro, .inr (1, [.ref rb, .int (nI (n + k - (cRun kn en ds (n + k) 64 (0, pl, rp, mk, la, va_cpy f g 0 n k, pf)).1))])), (rb, .inl (cI, 64, .inl (va_cpy (cRun kn en ds (n + k) 64 (0, pl, rp, mk, la, va_cpy f g 0 n k, pf)).2.2.2.2.2.1 (cRun kn en ds (n + k) 64 (0, pl, rp, mk, la, va_cpy f g 0 n k, pf)).2.2.2.2.2.1 (cRun kn en ds (n + k) 64 (0, pl, rp, mk, la, va_cpy f g 0 n k, pf)).1 0 (n + k - (cRun kn en ds (n + k) 64 (0, pl, rp, mk, la, va_cpy f g 0 n k, pf)).1)))), (pa, .inl (cI, 32, .inl ((cRun kn en ds (n + k) 64 (0, pl, rp, mk, la, va_cpy f g 0 n k, pf)).2.2.2.2.2.2))), (w, .inr (1, [.ref wb, .int (nI (k - k + (cRun kn en ds (n + k) 64 (0, pl, rp, mk, la, va_cpy f g 0 n k, pf)).1))])), (wb, .inl (cI, 64, .inl (va_cpy (cRun kn en ds (n + k) 64 (0, pl, rp, mk, la, va_cpy f g 0 n k, pf)).2.2.2.2.2.1 (va_cpy f f k 0 (k - k)) 0 (k - k) (cRun kn en ds (n + k) 64 (0, pl, rp, mk, la, va_cpy f g 0 n k, pf)).1)))] := by
  refine kVG_of (cc := cX0_pass) (nL := 5) (own := RX0) (lv := [(0, .ref q), (1, .ref w)]) (by decide) rfl rfl (Nat.le_of_ble_eq_true rfl) rfl ?_
  intro p e s m args below meth c A ls Q C hA hG hK hP hD hS hl hret
  obtain ⟨hx, hb, hr, hml, hown, hts, hlocks⟩ := C
  have k_14 := hts (.fieldLink RX0 14 "BranchFilters$Filter" "held" "LBranchFilters$Row;") (by decide +kernel)
  have k_32 := hts (.fieldLink RX0 32 "BranchFilters$Filter" "kind" "I") (by decide +kernel)
  have k_42 := hts (.fieldLink RX0 42 "BranchFilters$Filter" "place" "I") (by decide +kernel)
  have k_45 := hts (.fieldLink RX0 45 "BranchFilters$Filter" "given" "I") (by decide +kernel)
  have k_65 := hts (.fieldLink RX0 65 "BranchFilters$Filter" "here" "I") (by decide +kernel)
  have k_68 := hts (.fieldLink RX0 68 "BranchFilters$Filter" "NEEDED" "[I") (by decide +kernel)
  have inX0 : ∀ w ∈ wsX00, w ∈ wsX0_pass := by decide +kernel
  refine lv_aload_n hx hb dX0_pass_0 rfl (lv_at hl 1 rfl) ?_
  refine lv_aload_n hx hb dX0_pass_1 rfl (lv_at hl 0 rfl) ?_
  refine va_get (D := D) (ci := 0) (v := .ref ro) (C := RX0) (T := TX0) (N := 11) hx hb hts inX0 hown hK hP 0 rfl rfl 0 (by decide) k_14 (fun _ h9 => h9) rfl dX0_pass_2 ?_
  refine lv_aload_n hx hb dX0_pass_5 rfl (lv_at hl 1 rfl) ?_
  refine kCallI (As := []) (wc := [(w, .inr (1, [.ref wb, .int (nI k)]))]) (wr := [(q, .inr (0, [.ref ro, .ref pa, .int (nI kn), .int ds, .int en, .int pl, .int he, .int gv, .int rp, .int mk, .int la])), (ro, .inr (1, [.ref rb, .int (nI n)])), (rb, .inl (cI, 64, .inl g)), (pa, .inl (cI, 32, .inl pf)), (wb, .inl (cI, 64, .inl f))]) (ws' := [(q, .inr (0, [.ref ro, .ref pa, .int (nI kn), .int ds, .int en, .int pl, .int he, .int gv, .int rp, .int mk, .int la])), (ro, .inr (1, [.ref rb, .int (nI n)])), (rb, .inl (cI, 64, .inl g)), (pa, .inl (cI, 32, .inl pf)), (w, .inr (1, [.ref wb, .int (nI k)])), (wb, .inl (cI, 64, .inl f))]) (ci := 1) (C := RX1) ⟨hx, hb, hml, hown, hts⟩ (c_X1_size l D cI cF cJ w wb (nI k) ) (cwV 0 hts gX0_pass_X1_size rfl rfl rfl (by decide +kernel) ⟨Nat.le_of_ble_eq_true rfl, Nat.le_of_ble_eq_true rfl⟩) hK hP hD hS hA [4] [0, 1, 2, 3, 5] [0, 1, 2, 3, 5, 4] rfl rfl rfl rfl (by decide) rfl rfl rfl rfl rfl hl.1 (Nat.le_of_ble_eq_true rfl) ⟨Nat.zero_le _, Nat.zero_le _⟩ dX0_pass_6 (fun H locs hP hD hS => ?_) rfl
  refine kCallV (As := [.ref ro, .int (nI k)]) (wc := [(w, .inr (1, [.ref wb, .int (nI k)])), (wb, .inl (cI, 64, .inl f)), (ro, .inr (1, [.ref rb, .int (nI n)])), (rb, .inl (cI, 64, .inl g))]) (wr := [(q, .inr (0, [.ref ro, .ref pa, .int (nI kn), .int ds, .int en, .int pl, .int he, .int gv, .int rp, .int mk, .int la])), (pa, .inl (cI, 32, .inl pf))]) (ws' := [(q, .inr (0, [.ref ro, .ref pa, .int (nI kn), .int ds, .int en, .int pl, .int he, .int gv, .int rp, .int mk, .int la])), (ro, .inr (1, [.ref rb, .int (nI (n + k))])), (rb, .inl (cI, 64, .inl (va_cpy f g 0 n k))), (pa, .inl (cI, 32, .inl pf)), (w, .inr (1, [.ref wb, .int (nI (k - k))])), (wb, .inl (cI, 64, .inl (va_cpy f f k 0 (k - k))))]) (ci := 1) (C := RX1) ⟨hx, hb, hml, hown, hts⟩ (c_X1_moveTo l D cI cF cJ w wb ro rb 64 64 k n k f g (by omega) (by omega) (by omega) (by omega) (by omega)) (cwV 2 hts gX0_pass_X1_moveTo rfl rfl rfl (by decide +kernel) ⟨Nat.le_of_ble_eq_true rfl, Nat.le_of_ble_eq_true rfl⟩) hK hP hD hS hA [4, 5, 1, 2] [0, 3] [0, 4, 5, 1, 2, 3] rfl rfl rfl rfl (by decide) rfl rfl rfl rfl rfl hl.1 (Nat.le_of_ble_eq_true rfl) ⟨Nat.zero_le _, Nat.zero_le _⟩ dX0_pass_9 (fun H locs hP hD hS => ?_) rfl
  refine lv_aload_n hx hb dX0_pass_12 rfl (lv_at hl 0 rfl) ?_
  refine lv_iconst (v := 0) hx hb dX0_pass_13 (by decide) ?_
  refine kPut (D := D) (ci := 0) (v := .int 0) (ty := .int) (C := RX0) (T := TX0) (N := 11) (ws' := [(q, .inr (0, [.ref ro, .ref pa, .int (nI kn), .int ds, .int en, .int pl, .int 0, .int gv, .int rp, .int mk, .int la])), (ro, .inr (1, [.ref rb, .int (nI (n + k))])), (rb, .inl (cI, 64, .inl (va_cpy f g 0 n k))), (pa, .inl (cI, 32, .inl pf)), (w, .inr (1, [.ref wb, .int (nI (k - k))])), (wb, .inl (cI, 64, .inl (va_cpy f f k 0 (k - k))))]) hx hb hts inX0 tyX0 tyX0_ok nmX0 hown hK hP hD hS 0 rfl rfl 6 (by decide) k_65 rfl (by decide +kernel) (rfl) (by first | rfl | decide) (Nat.le_of_ble_eq_true rfl) rfl dX0_pass_14 (fun H locs hP hD hS => ?_)
  refine lv_aload_n hx hb dX0_pass_17 rfl (lv_at hl 0 rfl) ?_
  refine va_get (D := D) (ci := 0) (v := .ref ro) (C := RX0) (T := TX0) (N := 11) hx hb hts inX0 hown hK hP 0 rfl rfl 0 (by decide) k_14 (fun _ h9 => h9) rfl dX0_pass_18 ?_
  refine kCallI (As := []) (wc := [(ro, .inr (1, [.ref rb, .int (nI (n + k))]))]) (wr := [(q, .inr (0, [.ref ro, .ref pa, .int (nI kn), .int ds, .int en, .int pl, .int 0, .int gv, .int rp, .int mk, .int la])), (rb, .inl (cI, 64, .inl (va_cpy f g 0 n k))), (pa, .inl (cI, 32, .inl pf)), (w, .inr (1, [.ref wb, .int (nI (k - k))])), (wb, .inl (cI, 64, .inl (va_cpy f f k 0 (k - k))))]) (ws' := [(q, .inr (0, [.ref ro, .ref pa, .int (nI kn), .int ds, .int en, .int pl, .int 0, .int gv, .int rp, .int mk, .int la])), (ro, .inr (1, [.ref rb, .int (nI (n + k))])), (rb, .inl (cI, 64, .inl (va_cpy f g 0 n k))), (pa, .inl (cI, 32, .inl pf)), (w, .inr (1, [.ref wb, .int (nI (k - k))])), (wb, .inl (cI, 64, .inl (va_cpy f f k 0 (k - k))))]) (ci := 1) (C := RX1) ⟨hx, hb, hml, hown, hts⟩ (c_X1_size l D cI cF cJ ro rb (nI (n + k)) ) (cwV 0 hts gX0_pass_X1_size rfl rfl rfl (by decide +kernel) ⟨Nat.le_of_ble_eq_true rfl, Nat.le_of_ble_eq_true rfl⟩) hK hP hD hS hA [1] [0, 2, 3, 4, 5] [0, 5, 1, 2, 3, 4] rfl rfl rfl rfl (by decide) rfl rfl rfl rfl rfl hl.1 (Nat.le_of_ble_eq_true rfl) ⟨Nat.zero_le _, Nat.zero_le _⟩ dX0_pass_21 (fun H locs hP hD hS => ?_) rfl
  refine va_gets hx hb hG.1 hS hown k_68 (fun _ h9 => h9) dX0_pass_24 ?_
  refine lv_aload_n hx hb dX0_pass_27 rfl (lv_at hl 0 rfl) ?_
  refine va_get (D := D) (ci := 0) (v := .int (nI kn)) (C := RX0) (T := TX0) (N := 11) hx hb hts inX0 hown hK hP 0 rfl rfl 2 (by decide) k_32 (fun _ h9 => h9) rfl dX0_pass_28 ?_
  refine kNeed (k := kn) hx hb hG hS rfl (by omega) dX0_pass_31 ?_
  refine lv_isub hx hb dX0_pass_32 ?_
  refine lv_topi (fun x_1 e_1 => ?_)
  refine lv_istore_n (lv' := [(2, .int x_1), (0, .ref q), (1, .ref w)]) hx hb dX0_pass_33 rfl hl (by decide) rfl (fun ls hl => ?_)
  refine lv_iconst (v := 0) hx hb dX0_pass_34 (by decide) ?_
  refine lv_istore_n (lv' := [(3, .int 0), (2, .int x_1), (0, .ref q), (1, .ref w)]) hx hb dX0_pass_35 rfl hl (by decide) rfl (fun ls hl => ?_)
  have hnd := cNeed_le kn
  subst e_1
  have loop : ∀ (K : Nat) (j h1 : Nat) (p1 r1 m1 l1 : Int32) (g1 f1 : Nat → Int32) (hj : j + K = 64) (hh : h1 ≤ n + k) (hr1 : cRun kn en ds (n + k) K (h1, p1, r1, m1, l1, g1, f1) = (cRun kn en ds (n + k) 64 (0, pl, rp, mk, la, va_cpy f g 0 n k, pf))) (H : Heap) (locs : List Loc) (ls : Array Slot), va_P D vwCl [(q, .inr (0, [.ref ro, .ref pa, .int (nI kn), .int ds, .int en, .int p1, .int (nI h1), .int gv, .int r1, .int m1, .int l1])), (ro, .inr (1, [.ref rb, .int (nI (n + k))])), (rb, .inl (cI, 64, .inl g1)), (pa, .inl (cI, 32, .inl f1)), (w, .inr (1, [.ref wb, .int (nI (k - k))])), (wb, .inl (cI, 64, .inl (va_cpy f f k 0 (k - k))))] H → va_D A [(q, .inr (0, [.ref ro, .ref pa, .int (nI kn), .int ds, .int en, .int p1, .int (nI h1), .int gv, .int r1, .int m1, .int l1])), (ro, .inr (1, [.ref rb, .int (nI (n + k))])), (rb, .inl (cI, 64, .inl g1)), (pa, .inl (cI, 32, .inl f1)), (w, .inr (1, [.ref wb, .int (nI (k - k))])), (wb, .inl (cI, 64, .inl (va_cpy f f k 0 (k - k))))] → va_S A s.heap H locs → lv_has ls 5 [(0, .ref q), (1, .ref w), (2, .int (nI (n + k) - nI (cNeed kn))), (3, .int (nI j))] → W p l e ({ frames := 4, cells := 0, slots := 0, locals := 93 }) s m args below meth c H locs 0 0 Q (F0 m 36 ls []) := by
    intro K
    induction K with
    | zero =>
      intro j h1 p1 r1 m1 l1 g1 f1 hj hh hr1 H locs ls hP hD hS hl
      obtain rfl : j = 64 := by omega
      have eR : (h1, p1, r1, m1, l1, g1, f1) = (cRun kn en ds (n + k) 64 (0, pl, rp, mk, la, va_cpy f g 0 n k, pf)) := hr1
      refine lv_iload_n hx hb dX0_pass_36 rfl (lv_at hl 3 rfl) ?_
      refine lv_bipush (v := 64) hx hb dX0_pass_37 (by decide) ?_
      refine lv_icmp_ge (tgt := 84) hx hb dX0_pass_39 (by decide) (fun c_2 => ?_) (fun c_2 => ?_)
      · refine lv_aload_n hx hb dX0_pass_84 rfl (lv_at hl 0 rfl) ?_
        refine lv_dup hx hb dX0_pass_85 rfl ?_
        refine va_get (D := D) (ci := 0) (v := .int gv) (C := RX0) (T := TX0) (N := 11) hx hb hts inX0 hown hK hP 0 rfl rfl 7 (by decide) k_45 (fun _ h9 => h9) rfl dX0_pass_86 ?_
        refine lv_aload_n hx hb dX0_pass_89 rfl (lv_at hl 0 rfl) ?_
        refine va_get (D := D) (ci := 0) (v := .int (nI h1)) (C := RX0) (T := TX0) (N := 11) hx hb hts inX0 hown hK hP 0 rfl rfl 6 (by decide) k_65 (fun _ h9 => h9) rfl dX0_pass_90 ?_
        refine lv_iadd hx hb dX0_pass_93 ?_
        refine kPut (D := D) (ci := 0) (v := .int (gv + (nI h1))) (ty := .int) (C := RX0) (T := TX0) (N := 11) (ws' := [(q, .inr (0, [.ref ro, .ref pa, .int (nI kn), .int ds, .int en, .int p1, .int (nI h1), .int (gv + (nI h1)), .int r1, .int m1, .int l1])), (ro, .inr (1, [.ref rb, .int (nI (n + k))])), (rb, .inl (cI, 64, .inl g1)), (pa, .inl (cI, 32, .inl f1)), (w, .inr (1, [.ref wb, .int (nI (k - k))])), (wb, .inl (cI, 64, .inl (va_cpy f f k 0 (k - k))))]) hx hb hts inX0 tyX0 tyX0_ok nmX0 hown hK hP hD hS 0 rfl rfl 7 (by decide) k_45 rfl (by decide +kernel) (rfl) (by first | rfl | decide) (Nat.le_of_ble_eq_true rfl) rfl dX0_pass_94 (fun H locs hP hD hS => ?_)
        refine lv_aload_n hx hb dX0_pass_97 rfl (lv_at hl 0 rfl) ?_
        refine va_get (D := D) (ci := 0) (v := .ref ro) (C := RX0) (T := TX0) (N := 11) hx hb hts inX0 hown hK hP 0 rfl rfl 0 (by decide) k_14 (fun _ h9 => h9) rfl dX0_pass_98 ?_
        refine lv_aload_n hx hb dX0_pass_101 rfl (lv_at hl 1 rfl) ?_
        refine lv_aload_n hx hb dX0_pass_102 rfl (lv_at hl 0 rfl) ?_
        refine va_get (D := D) (ci := 0) (v := .int (nI h1)) (C := RX0) (T := TX0) (N := 11) hx hb hts inX0 hown hK hP 0 rfl rfl 6 (by decide) k_65 (fun _ h9 => h9) rfl dX0_pass_103 ?_
        refine kCallV (As := [.ref w, .int (nI h1)]) (wc := [(ro, .inr (1, [.ref rb, .int (nI (n + k))])), (rb, .inl (cI, 64, .inl g1)), (w, .inr (1, [.ref wb, .int (nI (k - k))])), (wb, .inl (cI, 64, .inl (va_cpy f f k 0 (k - k))))]) (wr := [(q, .inr (0, [.ref ro, .ref pa, .int (nI kn), .int ds, .int en, .int p1, .int (nI h1), .int (gv + (nI h1)), .int r1, .int m1, .int l1])), (pa, .inl (cI, 32, .inl f1))]) (ws' := [(q, .inr (0, [.ref ro, .ref pa, .int (nI kn), .int ds, .int en, .int p1, .int (nI h1), .int (gv + (nI h1)), .int r1, .int m1, .int l1])), (ro, .inr (1, [.ref rb, .int (nI ((n + k) - h1))])), (rb, .inl (cI, 64, .inl (va_cpy g1 g1 h1 0 ((n + k) - h1)))), (pa, .inl (cI, 32, .inl f1)), (w, .inr (1, [.ref wb, .int (nI ((k - k) + h1))])), (wb, .inl (cI, 64, .inl (va_cpy g1 (va_cpy f f k 0 (k - k)) 0 (k - k) h1)))]) (ci := 1) (C := RX1) ⟨hx, hb, hml, hown, hts⟩ (c_X1_moveTo l D cI cF cJ ro rb w wb 64 64 (n + k) (k - k) h1 g1 (va_cpy f f k 0 (k - k)) (by omega) (by omega) (by omega) (by omega) (by omega)) (cwV 2 hts gX0_pass_X1_moveTo rfl rfl rfl (by decide +kernel) ⟨Nat.le_of_ble_eq_true rfl, Nat.le_of_ble_eq_true rfl⟩) hK hP hD hS hA [1, 2, 4, 5] [0, 3] [0, 2, 3, 1, 4, 5] rfl rfl rfl rfl (by decide) rfl rfl rfl rfl rfl hl.1 (Nat.le_of_ble_eq_true rfl) ⟨Nat.zero_le _, Nat.zero_le _⟩ dX0_pass_106 (fun H locs hP hD hS => ?_) rfl
        exact hret _ _ _ _ dX0_pass_109 (by rw [← eR]; exact hP) (by rw [← eR]; exact hD) hS
      · exact absurd ((kLe (a := 64) (b := 64) rfl rfl (by omega) (by omega)).mpr (by omega)) c_2
    | succ K ih =>
      intro j h1 p1 r1 m1 l1 g1 f1 hj hh hr1 H locs ls hP hD hS hl
      refine lv_iload_n hx hb dX0_pass_36 rfl (lv_at hl 3 rfl) ?_
      refine lv_bipush (v := 64) hx hb dX0_pass_37 (by decide) ?_
      refine lv_icmp_ge (tgt := 84) hx hb dX0_pass_39 (by decide) (fun c_3 => ?_) (fun c_3 => ?_)
      · exact absurd ((kLe (a := 64) (b := j) rfl rfl (by omega) (by omega)).mp c_3) (by omega)
      · refine lv_aload_n hx hb dX0_pass_42 rfl (lv_at hl 0 rfl) ?_
        refine va_get (D := D) (ci := 0) (v := .int (nI h1)) (C := RX0) (T := TX0) (N := 11) hx hb hts inX0 hown hK hP 0 rfl rfl 6 (by decide) k_65 (fun _ h9 => h9) rfl dX0_pass_43 ?_
        refine lv_iload_n hx hb dX0_pass_46 rfl (lv_at hl 2 rfl) ?_
        refine lv_icmp_gt (tgt := 84) hx hb dX0_pass_47 (by decide) (fun c_4 => ?_) (fun c_4 => ?_)
        · have eR : (h1, p1, r1, m1, l1, g1, f1) = (cRun kn en ds (n + k) 64 (0, pl, rp, mk, la, va_cpy f g 0 n k, pf)) := by rw [← hr1]; exact (cRun_out (by have := (kEnd (by omega) (by omega) (by omega)).mp c_4; omega)).symm
          refine lv_aload_n hx hb dX0_pass_84 rfl (lv_at hl 0 rfl) ?_
          refine lv_dup hx hb dX0_pass_85 rfl ?_
          refine va_get (D := D) (ci := 0) (v := .int gv) (C := RX0) (T := TX0) (N := 11) hx hb hts inX0 hown hK hP 0 rfl rfl 7 (by decide) k_45 (fun _ h9 => h9) rfl dX0_pass_86 ?_
          refine lv_aload_n hx hb dX0_pass_89 rfl (lv_at hl 0 rfl) ?_
          refine va_get (D := D) (ci := 0) (v := .int (nI h1)) (C := RX0) (T := TX0) (N := 11) hx hb hts inX0 hown hK hP 0 rfl rfl 6 (by decide) k_65 (fun _ h9 => h9) rfl dX0_pass_90 ?_
          refine lv_iadd hx hb dX0_pass_93 ?_
          refine kPut (D := D) (ci := 0) (v := .int (gv + (nI h1))) (ty := .int) (C := RX0) (T := TX0) (N := 11) (ws' := [(q, .inr (0, [.ref ro, .ref pa, .int (nI kn), .int ds, .int en, .int p1, .int (nI h1), .int (gv + (nI h1)), .int r1, .int m1, .int l1])), (ro, .inr (1, [.ref rb, .int (nI (n + k))])), (rb, .inl (cI, 64, .inl g1)), (pa, .inl (cI, 32, .inl f1)), (w, .inr (1, [.ref wb, .int (nI (k - k))])), (wb, .inl (cI, 64, .inl (va_cpy f f k 0 (k - k))))]) hx hb hts inX0 tyX0 tyX0_ok nmX0 hown hK hP hD hS 0 rfl rfl 7 (by decide) k_45 rfl (by decide +kernel) (rfl) (by first | rfl | decide) (Nat.le_of_ble_eq_true rfl) rfl dX0_pass_94 (fun H locs hP hD hS => ?_)
          refine lv_aload_n hx hb dX0_pass_97 rfl (lv_at hl 0 rfl) ?_
          refine va_get (D := D) (ci := 0) (v := .ref ro) (C := RX0) (T := TX0) (N := 11) hx hb hts inX0 hown hK hP 0 rfl rfl 0 (by decide) k_14 (fun _ h9 => h9) rfl dX0_pass_98 ?_
          refine lv_aload_n hx hb dX0_pass_101 rfl (lv_at hl 1 rfl) ?_
          refine lv_aload_n hx hb dX0_pass_102 rfl (lv_at hl 0 rfl) ?_
          refine va_get (D := D) (ci := 0) (v := .int (nI h1)) (C := RX0) (T := TX0) (N := 11) hx hb hts inX0 hown hK hP 0 rfl rfl 6 (by decide) k_65 (fun _ h9 => h9) rfl dX0_pass_103 ?_
          refine kCallV (As := [.ref w, .int (nI h1)]) (wc := [(ro, .inr (1, [.ref rb, .int (nI (n + k))])), (rb, .inl (cI, 64, .inl g1)), (w, .inr (1, [.ref wb, .int (nI (k - k))])), (wb, .inl (cI, 64, .inl (va_cpy f f k 0 (k - k))))]) (wr := [(q, .inr (0, [.ref ro, .ref pa, .int (nI kn), .int ds, .int en, .int p1, .int (nI h1), .int (gv + (nI h1)), .int r1, .int m1, .int l1])), (pa, .inl (cI, 32, .inl f1))]) (ws' := [(q, .inr (0, [.ref ro, .ref pa, .int (nI kn), .int ds, .int en, .int p1, .int (nI h1), .int (gv + (nI h1)), .int r1, .int m1, .int l1])), (ro, .inr (1, [.ref rb, .int (nI ((n + k) - h1))])), (rb, .inl (cI, 64, .inl (va_cpy g1 g1 h1 0 ((n + k) - h1)))), (pa, .inl (cI, 32, .inl f1)), (w, .inr (1, [.ref wb, .int (nI ((k - k) + h1))])), (wb, .inl (cI, 64, .inl (va_cpy g1 (va_cpy f f k 0 (k - k)) 0 (k - k) h1)))]) (ci := 1) (C := RX1) ⟨hx, hb, hml, hown, hts⟩ (c_X1_moveTo l D cI cF cJ ro rb w wb 64 64 (n + k) (k - k) h1 g1 (va_cpy f f k 0 (k - k)) (by omega) (by omega) (by omega) (by omega) (by omega)) (cwV 2 hts gX0_pass_X1_moveTo rfl rfl rfl (by decide +kernel) ⟨Nat.le_of_ble_eq_true rfl, Nat.le_of_ble_eq_true rfl⟩) hK hP hD hS hA [1, 2, 4, 5] [0, 3] [0, 2, 3, 1, 4, 5] rfl rfl rfl rfl (by decide) rfl rfl rfl rfl rfl hl.1 (Nat.le_of_ble_eq_true rfl) ⟨Nat.zero_le _, Nat.zero_le _⟩ dX0_pass_106 (fun H locs hP hD hS => ?_) rfl
          exact hret _ _ _ _ dX0_pass_109 (by rw [← eR]; exact hP) (by rw [← eR]; exact hD) hS
        · have hg : h1 + cNeed kn ≤ n + k := by have := mt (kEnd (by omega) (by omega) (by omega)).mpr c_4; omega
          refine lv_aload_n hx hb dX0_pass_50 rfl (lv_at hl 0 rfl) ?_
          refine kCallI (As := []) (wc := [(q, .inr (0, [.ref ro, .ref pa, .int (nI kn), .int ds, .int en, .int p1, .int (nI h1), .int gv, .int r1, .int m1, .int l1])), (ro, .inr (1, [.ref rb, .int (nI (n + k))])), (rb, .inl (cI, 64, .inl g1)), (pa, .inl (cI, 32, .inl f1))]) (wr := [(w, .inr (1, [.ref wb, .int (nI (k - k))])), (wb, .inl (cI, 64, .inl (va_cpy f f k 0 (k - k))))]) (ws' := [(q, .inr (0, [.ref ro, .ref pa, .int (nI kn), .int ds, .int en, .int p1, .int (nI h1), .int gv, .int ((cStep kn en p1 ds r1 m1 l1 h1 g1 f1).2.1), .int ((cStep kn en p1 ds r1 m1 l1 h1 g1 f1).2.2.1), .int ((cStep kn en p1 ds r1 m1 l1 h1 g1 f1).2.2.2.1)])), (ro, .inr (1, [.ref rb, .int (nI (n + k))])), (rb, .inl (cI, 64, .inl ((cStep kn en p1 ds r1 m1 l1 h1 g1 f1).2.2.2.2.1))), (pa, .inl (cI, 32, .inl ((cStep kn en p1 ds r1 m1 l1 h1 g1 f1).2.2.2.2.2))), (w, .inr (1, [.ref wb, .int (nI (k - k))])), (wb, .inl (cI, 64, .inl (va_cpy f f k 0 (k - k))))]) (ci := 0) (C := RX0) ⟨hx, hb, hml, hown, hts⟩ (c_X0_step l D cI cF cJ q ro pa rb h1 kn ds en p1 gv r1 m1 l1 (nI (n + k)) g1 f1 (by omega) (by omega)) (cwV 0 hts gX0_pass_X0_step rfl rfl rfl (by decide +kernel) ⟨Nat.le_of_ble_eq_true rfl, Nat.le_of_ble_eq_true rfl⟩) hK hP hD hS hA [0, 1, 2, 3] [4, 5] [2, 3, 4, 5, 0, 1] rfl rfl rfl rfl (by decide) rfl rfl rfl rfl rfl hl.1 (Nat.le_of_ble_eq_true rfl) ⟨Nat.zero_le _, Nat.zero_le _⟩ dX0_pass_51 (fun H locs hP hD hS => ?_) rfl
          refine lv_topi (fun x_5 e_5 => ?_)
          refine lv_istore (lv' := [(4, .int x_5), (0, .ref q), (1, .ref w), (2, .int (nI (n + k) - nI (cNeed kn))), (3, .int (nI j))]) hx hb dX0_pass_54 hl (by decide) rfl (fun ls hl => ?_)
          obtain ⟨mm, em, hm1, hm2⟩ := cStep_many kn en p1 ds r1 m1 l1 h1 g1 f1
          rw [em] at e_5
          subst e_5
          refine lv_aload_n hx hb dX0_pass_56 rfl (lv_at hl 1 rfl) ?_
          refine lv_dup hx hb dX0_pass_57 rfl ?_
          refine va_get (D := D) (ci := 0) (v := .int (nI h1)) (C := RX0) (T := TX0) (N := 11) hx hb hts inX0 hown hK hP 0 rfl rfl 6 (by decide) k_65 (fun _ h9 => h9) rfl dX0_pass_58 ?_
          refine lv_iload hx hb dX0_pass_61 (lv_at hl 0 rfl) ?_
          refine lv_iadd hx hb dX0_pass_63 ?_
          refine kTop (y := nI (h1 + mm)) (nI_add _ _) ?_
          refine kPut (D := D) (ci := 0) (v := .int (nI (h1 + mm))) (ty := .int) (C := RX0) (T := TX0) (N := 11) (ws' := [(q, .inr (0, [.ref ro, .ref pa, .int (nI kn), .int ds, .int en, .int p1, .int (nI (h1 + mm)), .int gv, .int ((cStep kn en p1 ds r1 m1 l1 h1 g1 f1).2.1), .int ((cStep kn en p1 ds r1 m1 l1 h1 g1 f1).2.2.1), .int ((cStep kn en p1 ds r1 m1 l1 h1 g1 f1).2.2.2.1)])), (ro, .inr (1, [.ref rb, .int (nI (n + k))])), (rb, .inl (cI, 64, .inl ((cStep kn en p1 ds r1 m1 l1 h1 g1 f1).2.2.2.2.1))), (pa, .inl (cI, 32, .inl ((cStep kn en p1 ds r1 m1 l1 h1 g1 f1).2.2.2.2.2))), (w, .inr (1, [.ref wb, .int (nI (k - k))])), (wb, .inl (cI, 64, .inl (va_cpy f f k 0 (k - k))))]) hx hb hts inX0 tyX0 tyX0_ok nmX0 hown hK hP hD hS 0 rfl rfl 6 (by decide) k_65 rfl (by decide +kernel) (rfl) (by first | rfl | decide) (Nat.le_of_ble_eq_true rfl) rfl dX0_pass_64 (fun H locs hP hD hS => ?_)
          refine lv_aload_n hx hb dX0_pass_67 rfl (lv_at hl 1 rfl) ?_
          refine lv_dup hx hb dX0_pass_68 rfl ?_
          refine va_get (D := D) (ci := 0) (v := .int p1) (C := RX0) (T := TX0) (N := 11) hx hb hts inX0 hown hK hP 0 rfl rfl 5 (by decide) k_42 (fun _ h9 => h9) rfl dX0_pass_69 ?_
          refine lv_iload hx hb dX0_pass_72 (lv_at hl 0 rfl) ?_
          refine lv_iadd hx hb dX0_pass_74 ?_
          refine kPut (D := D) (ci := 0) (v := .int (p1 + (nI mm))) (ty := .int) (C := RX0) (T := TX0) (N := 11) (ws' := [(q, .inr (0, [.ref ro, .ref pa, .int (nI kn), .int ds, .int en, .int (p1 + (nI mm)), .int (nI (h1 + mm)), .int gv, .int ((cStep kn en p1 ds r1 m1 l1 h1 g1 f1).2.1), .int ((cStep kn en p1 ds r1 m1 l1 h1 g1 f1).2.2.1), .int ((cStep kn en p1 ds r1 m1 l1 h1 g1 f1).2.2.2.1)])), (ro, .inr (1, [.ref rb, .int (nI (n + k))])), (rb, .inl (cI, 64, .inl ((cStep kn en p1 ds r1 m1 l1 h1 g1 f1).2.2.2.2.1))), (pa, .inl (cI, 32, .inl ((cStep kn en p1 ds r1 m1 l1 h1 g1 f1).2.2.2.2.2))), (w, .inr (1, [.ref wb, .int (nI (k - k))])), (wb, .inl (cI, 64, .inl (va_cpy f f k 0 (k - k))))]) hx hb hts inX0 tyX0 tyX0_ok nmX0 hown hK hP hD hS 0 rfl rfl 5 (by decide) k_42 rfl (by decide +kernel) (rfl) (by first | rfl | decide) (Nat.le_of_ble_eq_true rfl) rfl dX0_pass_75 (fun H locs hP hD hS => ?_)
          refine lv_iinc (v := nI (j + 1)) (lv' := [(3, .int (nI (j + 1))), (4, .int (nI mm)), (0, .ref q), (1, .ref w), (2, .int (nI (n + k) - nI (cNeed kn)))]) hx hb dX0_pass_78 hl (k := 4) rfl (nI_1 _) (by decide) rfl (fun ls hl => ?_)
          refine lv_goto (tgt := 36) hx hb dX0_pass_81 (by decide) ?_
          exact ih (j + 1) (h1 + mm) (p1 + nI mm) (cStep kn en p1 ds r1 m1 l1 h1 g1 f1).2.1 (cStep kn en p1 ds r1 m1 l1 h1 g1 f1).2.2.1 (cStep kn en p1 ds r1 m1 l1 h1 g1 f1).2.2.2.1 (cStep kn en p1 ds r1 m1 l1 h1 g1 f1).2.2.2.2.1 (cStep kn en p1 ds r1 m1 l1 h1 g1 f1).2.2.2.2.2 (by omega) (by omega) (by rw [← hr1]; exact (cRun_go hg em (by omega)).symm) _ _ _ hP hD hS (lv_sub hl [2, 3, 4, 0] rfl)
  exact loop 64 0 0 pl rp mk la (va_cpy f g 0 n k) pf (by omega) (by omega) rfl _ _ _ hP hD hS (lv_sub hl [2, 3, 1, 0] rfl)
end
section
/-! constructors: cells that come new -/
def kVN (S : Type) (l : Launch) (y : MethodName) (wy : List Cond) (rm : Room) (D : va_G) (tys : List (ClassId × FieldType)) (av : List Value) (w0 : va_W) (w1 : S → va_W) (mc ms : Nat) : Prop :=
  ∀ sz : Nat, Met l y wy rm (va_Pc av (kPre D tys w0 sz)) (va_Qv (fun (_ : S) => True) (fun u t => kAt D tys (va_A w0 sz) (w1 u) t) (va_A w0 sz)) mc ms (va_A w0 sz)
theorem kVN_of {S : Type} {mc ms : Nat} {l : Launch} {y : MethodName} {wy wy' : List Cond} {rm : Room} {D : va_G} {tys : List (ClassId × FieldType)} {av : List Value} {w0 : va_W} {w1 : S → va_W} {cc : ByteArray} {nL : Nat} {own : String} {lv : List (Nat × Value)}
    (hy : plainName y.cls = true) (ho : y.cls = own) (hw : wy = Cond.code y cc nL none :: wy') (hlen : (lg_sl av).length ≤ nL) (hlv : lv_args 0 av = lv)
    (body : ∀ (p : Program) (e : Env) (s : State) (m : MethodId) (args : Array Value) (below : List Frame) (meth : Method) (c : Code) (A : Nat → Prop) (ls : Array Slot) (Q : State → Prop), kSt p l rm s m args meth c cc nL none wy own → meth.name = y.name → (∀ q : Nat, s.heap.size ≤ q → A q) →
      va_K D vwCl tys s → va_P D vwCl w0 s.heap → va_D A w0 → va_S A s.heap s.heap [] → lv_has ls nL lv →
      (∀ (u : S) (H1 : Heap) (locs1 : List Loc) (ls1 : Array Slot) (pc1 : Nat), decode cc pc1 = .ok (.return_, 1) → va_P D vwCl (w1 u) H1 → va_D A (w1 u) → va_S A s.heap H1 locs1 → W p l e rm s m args below meth c H1 locs1 mc ms Q (F0 m pc1 ls1 [])) →
      W p l e rm s m args below meth c s.heap [] 0 0 Q (F0 m 0 ls [])) : kVN S l y wy rm D tys av w0 w1 mc ms := by
  intro sz
  refine Met.ofW (cc := cc) (maxL := nL) (ret := none) hy hw ?_
  intro p e s m args below meth c s₁ B hml hv
  obtain ⟨rfl, hsz, hP, hK, hD0⟩ := hv
  subst hsz
  have hD := hD0.self (sz := s.heap.size)
  have hl := lv_entry av (n := nL) hlen
  rw [lg_entry_eq]
  rw [hlv] at hl
  refine body p e s m _ below meth c _ _ _ ⟨B.exec, B.bytes, B.returns, hml, by rw [← ho]; exact findClass_of_methodNamed B.named, atoms_spec (ws := wy) B.pre, B.notSynchronized⟩ (name_of_methodNamed B.named B.method).1 (fun q h => Or.inr h) hK hP hD va_S.rf hl ?_
  intro u H1 locs1 ls1 pc1 hdg hP1 hD1 hS1
  exact W.vret B.exec B.bytes B.returns (fun t ht hW => ⟨⟨u, rfl, trivial, by rw [ht]; exact hP1, va_K.moved hW.alike hK, hD1⟩, hS1.F ht⟩) hS1.2.2 hdg B.notSynchronized
section KN
variable {p : Program} {l : Launch} {e : Env} {R : Room} {s : State} {m : MethodId} {args : Array Value} {below : List Frame} {meth : Method} {c : Code} {H : Heap} {locs : List Loc} {cells slots : Nat} {Q : State → Prop}
variable {cc : ByteArray} {pc : Nat} {ls : Array Slot} {rest : List Value} {D : va_G} {tys : List (ClassId × FieldType)} {A : Nat → Prop} {H0 : Heap} {ws : va_W} {a nd : Nat}
variable {wc wr ws' : va_W} {y : MethodName} {bytes : ByteArray} {maxL nL n index ci : Nat} {ret : Option FieldType} {wy Ts : List Cond} {rm : Room} {own C : String} {b : Addr} {As : List Value} {fs : List Value} {T : u_T} {N : Nat}
/-- a new int array -/
theorem kNewI (hx : p.tables.exec = Jvm.exec) (hb : c.code = cc) {at9 : ArrayType} (hat : newarray.typeOf at9 = .int) (harr : (Cond.arrayClass .int).before args s = true) (hK : va_K D vwCl tys s) (hP : va_P D vwCl ws H) (hD : va_D A ws) (hS : va_S A H0 H locs) (hA : ∀ q, H0.size ≤ q → A q) (t0 : Nat) {cA : ClassId} (ht : tys[t0]? = some (cA, .int))
    {i : Int32} {k c2 s2 : Nat} (hi : i = nI k) (hk : k ≤ 100000) (hc2 : cells + 1 = c2) (hs2 : slots + k = s2) (hcells : c2 ≤ R.cells) (hslots : s2 ≤ R.slots) (hdg : decode cc pc = .ok (.newarray at9, 2))
    (kk : ∀ (q : Nat) (H1 : Heap), va_P D vwCl (ws ++ [(q, .inl (cA, k, .inl (fun _ => 0)))]) H1 → va_D A (ws ++ [(q, .inl (cA, k, .inl (fun _ => 0)))]) → va_S A H0 H1 locs → W p l e R s m args below meth c H1 locs c2 s2 Q (F0 m (pc + 2) ls (.ref q :: rest))) : W p l e R s m args below meth c H locs cells slots Q (F0 m pc ls (.int i :: rest)) := by
  subst hi; subst hc2; subst hs2
  refine va_newa hx hb (by rw [hat]; exact harr) (ty := .int) hat hK hP hD hS hA (N' := k) (a0 := (k, .inl (fun _ => 0))) (fun _ => rfl) (nI_pos (by omega)) (nI_clamp (by omega)) (by show k * 4 ≤ _; omega) hcells hslots hdg ?_
  intro q cB H1 hK1 hP1 hD1 hS1
  have h1 := (hK.2 t0 _ ht).2
  have h2 : va_RA s cB .int := (hK1.2 tys.length (cB, .int) (by simp)).2
  have h3 : cB = cA := Option.some.inj ((va_nm_int h2).symm.trans (va_nm_int h1))
  subst h3
  exact kk q H1 hP1 hD1 hS1
/-- a new array of filters -/
theorem kNewF (hx : p.tables.exec = Jvm.exec) (hb : c.code = cc) (hown : s.vm.findClass own = some m.cls) (hclink : (Cond.classLink own index RX0).before args s = true) (hover : va_AO RX0 s) (hK : va_K D vwCl tys s) (hP : va_P D vwCl ws H) (hD : va_D A ws) (hS : va_S A H0 H locs) (hA : ∀ q, H0.size ≤ q → A q) (t0 : Nat) {cA : ClassId} (ht : tys[t0]? = some (cA, .object RX0))
    {i : Int32} {k c2 s2 : Nat} (hi : i = nI k) (hk : k ≤ 100000) (hc2 : cells + 1 = c2) (hs2 : slots + k = s2) (hcells : c2 ≤ R.cells) (hslots : s2 ≤ R.slots) (hdg : decode cc pc = .ok (.anewarray index, 3))
    (kk : ∀ (q : Nat) (H1 : Heap), va_P D vwCl (ws ++ [(q, .inl (cA, k, .inr (.inr (.inr (.inr (fun _ => none))))))]) H1 → va_D A (ws ++ [(q, .inl (cA, k, .inr (.inr (.inr (.inr (fun _ => none))))))]) → va_S A H0 H1 locs → W p l e R s m args below meth c H1 locs c2 s2 Q (F0 m (pc + 3) ls (.ref q :: rest))) : W p l e R s m args below meth c H locs cells slots Q (F0 m pc ls (.int i :: rest)) := by
  subst hi; subst hc2; subst hs2
  refine va_newq hx hb hown hclink hover hK hP hD hS hA (nI_pos (by omega)) (nI_clamp (by omega)) (by omega) hcells hslots hdg ?_
  intro q cB H1 hK1 hP1 hD1 hS1
  obtain ⟨_, _, -, -, -, h1⟩ := (hK.2 t0 _ ht).2
  obtain ⟨_, _, -, -, -, h2⟩ : va_RA s cB (.object RX0) := (hK1.2 tys.length (cB, .object RX0) (by simp)).2
  have h3 : cB = cA := Option.some.inj (h2.symm.trans h1)
  subst h3
  exact kk q H1 hP1 hD1 hS1
/-- a final field, in its constructor -/
theorem kPutF (hx : p.tables.exec = Jvm.exec) (hb : c.code = cc) (hts : ∀ w ∈ Ts, w.before args s = true) (hin : ∀ w ∈ u_ws C T N, w ∈ Ts) (ty0 : Nat → FieldType) (hty : ∀ k, k < N → parseFieldDescriptor (T k).2.2.1 = some (ty0 k)) (hnm : ∀ a, a < N → ∀ b, b < N → a ≠ b → (T a).2.1 ≠ (T b).2.1) (hown : s.vm.findClass own = some m.cls) (hK : va_K D vwCl tys s) (hP : va_P D vwCl ws H) (hD : va_D A ws) (hS : va_S A H0 H locs) (q0 : Nat) (he : ws[q0]? = some (a, .inr (ci, fs))) (hc : vwCl[ci]? = some (C, T, N)) (k : Nat) (hk : k < N) (hlink : (Cond.fieldLink own index (T k).1 (T k).2.1 (T k).2.2.1).before args s = true) (hfin : (T k).2.2.2 = true) (hin2 : meth.name = "<init>") (hdecl : (T k).1 = own) {ty : FieldType} {v : Value} (hd : parseFieldDescriptor (T k).2.2.1 = some ty) (hn : narrow ty v = v) (hfit : fits ty v = true) (hl : k < fs.length) (hw : ws.set q0 (a, .inr (ci, fs.set k v)) = ws')
    (hdg : decode cc pc = .ok (.putfield index, 3)) (kk : ∀ (H1 : Heap) (locs1 : List Loc), va_P D vwCl ws' H1 → va_D A ws' → va_S A H0 H1 locs1 → W p l e R s m args below meth c H1 locs1 cells slots Q (F0 m (pc + 3) ls rest)) : W p l e R s m args below meth c H locs cells slots Q (F0 m pc ls (v :: .ref a :: rest)) := by
  refine va_putF hx hb hts hin ty0 hty hnm hown hK hP hD hS q0 he hc k hk hlink (fun _ h => h) hfin hin2 hdecl hd hn hfit hl hdg ?_
  rw [hw]
  exact kk
/-- a constructor's call -/
theorem kCallN {S : Type} {w1 : S → va_W} {wn : S → va_W} {mc ms c2 s2 : Nat} (Sx : CallFix p m c cc nL s args Ts own) (hM : kVN S l y wy rm D tys (.ref b :: As) wc w1 mc ms) (cw : CallB R s args own index y bytes maxL none wy rm mc ms n ∧ y.name = "<init>" ∧ (Cond.instanceMethod y).before args s = true)
    (hK : va_K D vwCl tys s) (hP : va_P D vwCl ws H) (hD : va_D A ws) (hS : va_S A H0 H locs) (hA : ∀ q, H0.size ≤ q → A q) (isC isR perm : List Nat)
    (hC : isC.map (fun i => ws[i]?) = wc.map some) (hnC : va_nd isC = true) (hR : isR.map (fun i => ws[i]?) = wr.map some) (hn : va_nd isR = true) (hdis : ∀ i ∈ isR, i ∉ isC) (hpm : ∀ u, perm.map (fun i => (wr ++ w1 u)[i]?) = (wn u).map some) (hnp : va_nd perm = true)
    (hAs : As.length = n) (hsize : ls.size = nL) (hW : (rest.map fun v => v.category).sum ≤ 8) (hc2 : cells + mc = c2) (hs2 : slots + ms = s2) (hf : c2 ≤ R.cells ∧ s2 ≤ R.slots) (hdg : decode cc pc = .ok (.invokespecial index, 3))
    (kk : ∀ (u : S) (H1 : Heap) (locs1 : List Loc), va_P D vwCl (wn u) H1 → va_D A (wn u) → va_S A H0 H1 locs1 → W p l e R s m args below meth c H1 locs1 c2 s2 Q (F0 m (pc + 3) ls rest)) {st0 : List Value} (hst : st0 = As.reverse ++ .ref b :: rest) : W p l e R s m args below meth c H locs cells slots Q (F0 m pc ls st0) := by
  have hCf : isC.filterMap (fun i => ws[i]?) = wc := kFm _ _ _ hC
  have hPc := hP.sub isC hCf
  have hDc := hD.sub isC hnC hC
  have hFc := va_free hD hS hA isC hC
  subst hst; subst hc2; subst hs2
  refine va_callv (va_runI (As := As) (rest := rest) Sx (hM H.size) cw ⟨kPre_blind, fun U hU hW => ⟨rfl, by rw [hU], by rw [hU]; exact hPc, va_K.moved hW.alike hK, hDc.weaken (fun _ _ _ _ => trivial)⟩⟩ rfl hAs hsize rfl (lv_room hW) hdg hf) hS (fun q _ h => hFc q h) hFc (fun u t H1 locs1 ht hvm hw hB hz1 hk1 hS1 => ?_)
  obtain ⟨hP1, hK1, hD1⟩ := hB
  rw [ht] at hP1
  obtain ⟨hP2, hD2⟩ := va_join hP hD isC isR hC hR hn hdis hk1 hFc hP1 hD1
  exact kk u H1 locs1 (hP2.sub perm (kFm _ _ _ (hpm u))) (hD2.sub perm hnp (hpm u)) hS1
end KN
end
section
/-! the constructors of the class -/

set_option maxHeartbeats 4000000 in
set_option maxRecDepth 100000 in
/-- Row(N) -/
theorem c_X1_init (l : Launch) (D : va_G) (cI cF cJ : ClassId) (r N : Nat) (hN : N ≤ 100000) : kVN (Nat) l yX1_init wsX1_init ({ frames := 1, cells := 1, slots := N, locals := 20 }) D (kTy cI cF cJ) [.ref r, .int (nI N)] [(r, .inr (1, [.null, .int 0]))] (fun u => [(r, .inr (1, [.ref u, .int 0])), (u, .inl (cI, N, .inl (fun _ => 0)))]) 1 N := by
  refine kVN_of (cc := cX1_init) (nL := 2) (own := RX1) (lv := [(0, .ref r), (1, .int (nI N))]) (by decide) rfl rfl (Nat.le_of_ble_eq_true rfl) rfl ?_
  intro p e s m args below meth c A ls Q C hin hA hK hP hD hS hl hret
  obtain ⟨hx, hb, hr, hml, hown, hts, hlocks⟩ := C
  have k_1 := hts (.methodLink RX1 1 objectInit) (by decide +kernel)
  have k_7 := hts (.fieldLink RX1 7 "BranchFilters$Row" "bytes" "[I") (by decide +kernel)
  have k_ai := hts (.arrayClass .int) (by decide +kernel)
  have k_oc := hts (.code objectInit ⟨#[0xb1]⟩ 1 none) (by decide +kernel)
  have k_oi := hts (.instanceMethod objectInit) (by decide +kernel)
  have inX1 : ∀ w ∈ wsX10, w ∈ wsX1_init := by decide +kernel
  refine lv_aload_n hx hb dX1_init_0 rfl (lv_at hl 0 rfl) ?_
  refine W.objInit hx hb hown k_1 k_oi k_oc rfl (by rw [hml]; exact hl.1) rfl dX1_init_1 (Nat.le_of_ble_eq_true rfl) (Nat.le_of_ble_eq_true rfl) ?_
  refine W.eq (g2 := F0 m 4 ls []) rfl ?_
  refine lv_aload_n hx hb dX1_init_4 rfl (lv_at hl 0 rfl) ?_
  refine lv_iload_n hx hb dX1_init_5 rfl (lv_at hl 1 rfl) ?_
  refine kNewI (k := N) (c2 := 1) (s2 := N) hx hb rfl k_ai hK hP hD hS hA 0 rfl (rfl) (by omega) (by first | rfl | omega) (by first | rfl | omega) (Nat.le_of_ble_eq_true rfl) (by first | exact Nat.le_of_ble_eq_true rfl | exact Nat.le_refl _) dX1_init_6 (fun q_1 H hP hD hS => ?_)
  have hP : va_P D vwCl [(r, .inr (1, [.null, .int 0])), (q_1, .inl (cI, N, .inl (fun _ => 0)))] H := hP
  have hD : va_D A [(r, .inr (1, [.null, .int 0])), (q_1, .inl (cI, N, .inl (fun _ => 0)))] := hD
  refine kPutF (D := D) (ci := 1) (v := .ref q_1) (ty := .array .int) (C := RX1) (T := TX1) (N := 2) (ws' := [(r, .inr (1, [.ref q_1, .int 0])), (q_1, .inl (cI, N, .inl (fun _ => 0)))]) hx hb hts inX1 tyX1 tyX1_ok nmX1 hown hK hP hD hS 0 rfl rfl 0 (by decide) k_7 rfl hin rfl (by decide +kernel) rfl rfl (Nat.le_of_ble_eq_true rfl) rfl dX1_init_8 (fun H locs hP hD hS => ?_)
  refine W.widen (k := 1) (n := N) (by omega) (by omega) ?_
  exact hret (q_1) _ _ _ _ dX1_init_11 hP hD hS

set_option maxHeartbeats 4000000 in
set_option maxRecDepth 100000 in
/-- Filter() -/
theorem c_X0_init (l : Launch) (D : va_G) (cI cF cJ : ClassId) (q : Nat)  : kVN (Nat × Nat × Nat) l yX0_init wsX0_init ({ frames := 2, cells := 3, slots := 98, locals := 43 }) D (kTy cI cF cJ) [.ref q] [(q, .inr (0, [.null, .null, .int 0, .int 0, .int 0, .int 0, .int 0, .int 0, .int 0, .int 0, .int 0]))] (fun u => [(q, .inr (0, [.ref u.1, .ref u.2.2, .int 0, .int 1, .int 1, .int 0, .int 0, .int 0, .int 0, .int 0, .int (0 - 5)])), (u.1, .inr (1, [.ref u.2.1, .int 0])), (u.2.1, .inl (cI, 64, .inl (fun _ => 0))), (u.2.2, .inl (cI, 32, .inl (zr (fun _ => 0) 32)))]) 3 98 := by
  refine kVN_of (cc := cX0_init) (nL := 1) (own := RX0) (lv := [(0, .ref q)]) (by decide) rfl rfl (Nat.le_of_ble_eq_true rfl) rfl ?_
  intro p e s m args below meth c A ls Q C hin hA hK hP hD hS hl hret
  obtain ⟨hx, hb, hr, hml, hown, hts, hlocks⟩ := C
  have k_11 := hts (.methodLink RX0 11 yX1_init) (by decide +kernel)
  have k_14 := hts (.fieldLink RX0 14 "BranchFilters$Filter" "held" "LBranchFilters$Row;") (by decide +kernel)
  have k_20 := hts (.fieldLink RX0 20 "BranchFilters$Filter" "past" "[I") (by decide +kernel)
  have k_24 := hts (.fieldLink RX0 24 "BranchFilters$Filter" "distance" "I") (by decide +kernel)
  have k_3 := hts (.methodLink RX0 3 objectInit) (by decide +kernel)
  have k_9 := hts (.classLink RX0 9 RX1) (by decide +kernel)
  have k_ai := hts (.arrayClass .int) (by decide +kernel)
  have k_bX1 := hts (.instantiable RX1 2) (by decide +kernel)
  have k_iX1_init := hts (.instanceMethod yX1_init) (by decide +kernel)
  have k_nX1 := hts (.initialized RX1) (by decide +kernel)
  have k_nX1_init := hts (.initialized RX1) (by decide +kernel)
  have k_oc := hts (.code objectInit ⟨#[0xb1]⟩ 1 none) (by decide +kernel)
  have k_oi := hts (.instanceMethod objectInit) (by decide +kernel)
  have inX0 : ∀ w ∈ wsX00, w ∈ wsX0_init := by decide +kernel
  have inX1 : ∀ w ∈ wsX10, w ∈ wsX0_init := by decide +kernel
  refine lv_aload_n hx hb dX0_init_0 rfl (lv_at hl 0 rfl) ?_
  refine W.objInit hx hb hown k_3 k_oi k_oc rfl (by rw [hml]; exact hl.1) rfl dX0_init_1 (Nat.le_of_ble_eq_true rfl) (Nat.le_of_ble_eq_true rfl) ?_
  refine W.eq (g2 := F0 m 4 ls []) rfl ?_
  refine lv_aload_n hx hb dX0_init_4 rfl (lv_at hl 0 rfl) ?_
  refine va_new (ci := 1) (fs := [.null, .int 0]) (C := RX1) (T := TX1) (N := 2) hx hb hts inX1 tyX1 tyX1_ok hown k_9 k_bX1 k_nX1 hK hP hD hS hA rfl (fun j hj => by rcases (show j = 0 ∨ j = 1 by omega) with rfl | rfl <;> rfl) (Nat.le_of_ble_eq_true rfl) (Nat.le_of_ble_eq_true rfl) dX0_init_5 (fun q_1 H hP hD hS => ?_)
  refine W.widen (k := 1) (n := 2) (by omega) (by omega) ?_
  have hP : va_P D vwCl [(q, .inr (0, [.null, .null, .int 0, .int 0, .int 0, .int 0, .int 0, .int 0, .int 0, .int 0, .int 0])), (q_1, .inr (1, [.null, .int 0]))] H := hP
  have hD : va_D A [(q, .inr (0, [.null, .null, .int 0, .int 0, .int 0, .int 0, .int 0, .int 0, .int 0, .int 0, .int 0])), (q_1, .inr (1, [.null, .int 0]))] := hD
  refine lv_dup hx hb dX0_init_8 rfl ?_
  refine lv_bipush (v := 64) hx hb dX0_init_9 (by decide) ?_
  refine kCallN (As := [.int 64]) (wc := [(q_1, .inr (1, [.null, .int 0]))]) (wr := [(q, .inr (0, [.null, .null, .int 0, .int 0, .int 0, .int 0, .int 0, .int 0, .int 0, .int 0, .int 0]))]) (wn := fun u => [(q, .inr (0, [.null, .null, .int 0, .int 0, .int 0, .int 0, .int 0, .int 0, .int 0, .int 0, .int 0])), (q_1, .inr (1, [.ref u, .int 0])), (u, .inl (cI, 64, .inl (fun _ => 0)))]) (c2 := 2) (s2 := 66) ⟨hx, hb, hml, hown, hts⟩ (c_X1_init l D cI cF cJ q_1 64 (by omega)) (cwI 1 hts gX0_init_X1_init rfl rfl rfl k_nX1_init k_11 k_iX1_init rfl (by decide +kernel) ⟨Nat.le_of_ble_eq_true rfl, Nat.le_of_ble_eq_true rfl⟩) hK hP hD hS hA [1] [0] [0, 1, 2] rfl rfl rfl rfl (by decide) (fun _ => rfl) rfl rfl hl.1 (Nat.le_of_ble_eq_true rfl) (by rfl) (by rfl) ⟨Nat.le_of_ble_eq_true rfl, Nat.le_of_ble_eq_true rfl⟩ dX0_init_11 (fun u H locs hP hD hS => ?_) rfl
  obtain ⟨rb_2, rfl⟩ : ∃ z, z = u := ⟨_, rfl⟩
  have hP : va_P D vwCl [(q, .inr (0, [.null, .null, .int 0, .int 0, .int 0, .int 0, .int 0, .int 0, .int 0, .int 0, .int 0])), (q_1, .inr (1, [.ref rb_2, .int 0])), (rb_2, .inl (cI, 64, .inl (fun _ => 0)))] H := hP
  have hD : va_D A [(q, .inr (0, [.null, .null, .int 0, .int 0, .int 0, .int 0, .int 0, .int 0, .int 0, .int 0, .int 0])), (q_1, .inr (1, [.ref rb_2, .int 0])), (rb_2, .inl (cI, 64, .inl (fun _ => 0)))] := hD
  refine kPutF (D := D) (ci := 0) (v := .ref q_1) (ty := .object "BranchFilters$Row") (C := RX0) (T := TX0) (N := 11) (ws' := [(q, .inr (0, [.ref q_1, .null, .int 0, .int 0, .int 0, .int 0, .int 0, .int 0, .int 0, .int 0, .int 0])), (q_1, .inr (1, [.ref rb_2, .int 0])), (rb_2, .inl (cI, 64, .inl (fun _ => 0)))]) hx hb hts inX0 tyX0 tyX0_ok nmX0 hown hK hP hD hS 0 rfl rfl 0 (by decide) k_14 rfl hin rfl (by decide +kernel) rfl rfl (Nat.le_of_ble_eq_true rfl) rfl dX0_init_14 (fun H locs hP hD hS => ?_)
  refine lv_aload_n hx hb dX0_init_17 rfl (lv_at hl 0 rfl) ?_
  refine lv_bipush (v := 32) hx hb dX0_init_18 (by decide) ?_
  refine kNewI (k := 32) (c2 := 3) (s2 := 98) hx hb rfl k_ai hK hP hD hS hA 0 rfl (by decide) (by omega) (by first | rfl | omega) (by first | rfl | omega) (Nat.le_of_ble_eq_true rfl) (by first | exact Nat.le_of_ble_eq_true rfl | exact Nat.le_refl _) dX0_init_20 (fun q_3 H hP hD hS => ?_)
  have hP : va_P D vwCl [(q, .inr (0, [.ref q_1, .null, .int 0, .int 0, .int 0, .int 0, .int 0, .int 0, .int 0, .int 0, .int 0])), (q_1, .inr (1, [.ref rb_2, .int 0])), (rb_2, .inl (cI, 64, .inl (fun _ => 0))), (q_3, .inl (cI, 32, .inl (fun _ => 0)))] H := hP
  have hD : va_D A [(q, .inr (0, [.ref q_1, .null, .int 0, .int 0, .int 0, .int 0, .int 0, .int 0, .int 0, .int 0, .int 0])), (q_1, .inr (1, [.ref rb_2, .int 0])), (rb_2, .inl (cI, 64, .inl (fun _ => 0))), (q_3, .inl (cI, 32, .inl (fun _ => 0)))] := hD
  refine kPutF (D := D) (ci := 0) (v := .ref q_3) (ty := .array .int) (C := RX0) (T := TX0) (N := 11) (ws' := [(q, .inr (0, [.ref q_1, .ref q_3, .int 0, .int 0, .int 0, .int 0, .int 0, .int 0, .int 0, .int 0, .int 0])), (q_1, .inr (1, [.ref rb_2, .int 0])), (rb_2, .inl (cI, 64, .inl (fun _ => 0))), (q_3, .inl (cI, 32, .inl (fun _ => 0)))]) hx hb hts inX0 tyX0 tyX0_ok nmX0 hown hK hP hD hS 0 rfl rfl 1 (by decide) k_20 rfl hin rfl (by decide +kernel) rfl rfl (Nat.le_of_ble_eq_true rfl) rfl dX0_init_22 (fun H locs hP hD hS => ?_)
  refine lv_aload_n hx hb dX0_init_25 rfl (lv_at hl 0 rfl) ?_
  refine lv_iconst (v := 1) hx hb dX0_init_26 (by decide) ?_
  refine kPut (D := D) (ci := 0) (v := .int 1) (ty := .int) (C := RX0) (T := TX0) (N := 11) (ws' := [(q, .inr (0, [.ref q_1, .ref q_3, .int 0, .int 1, .int 0, .int 0, .int 0, .int 0, .int 0, .int 0, .int 0])), (q_1, .inr (1, [.ref rb_2, .int 0])), (rb_2, .inl (cI, 64, .inl (fun _ => 0))), (q_3, .inl (cI, 32, .inl (fun _ => 0)))]) hx hb hts inX0 tyX0 tyX0_ok nmX0 hown hK hP hD hS 0 rfl rfl 3 (by decide) k_24 rfl (by decide +kernel) (rfl) (by first | rfl | decide) (Nat.le_of_ble_eq_true rfl) rfl dX0_init_27 (fun H locs hP hD hS => ?_)
  refine lv_aload_n hx hb dX0_init_30 rfl (lv_at hl 0 rfl) ?_
  refine lv_iconst (v := 0) hx hb dX0_init_31 (by decide) ?_
  refine lv_iconst (v := 1) hx hb dX0_init_32 (by decide) ?_
  refine kCallV (As := [.int 0, .int 1]) (wc := [(q, .inr (0, [.ref q_1, .ref q_3, .int 0, .int 1, .int 0, .int 0, .int 0, .int 0, .int 0, .int 0, .int 0])), (q_1, .inr (1, [.ref rb_2, .int 0])), (q_3, .inl (cI, 32, .inl (fun _ => 0)))]) (wr := [(rb_2, .inl (cI, 64, .inl (fun _ => 0)))]) (ws' := [(q, .inr (0, [.ref q_1, .ref q_3, .int 0, .int 1, .int 1, .int 0, .int 0, .int 0, .int 0, .int 0, .int (0 - 5)])), (q_1, .inr (1, [.ref rb_2, .int 0])), (rb_2, .inl (cI, 64, .inl (fun _ => 0))), (q_3, .inl (cI, 32, .inl (zr (fun _ => 0) 32)))]) (ci := 0) (C := RX0) ⟨hx, hb, hml, hown, hts⟩ (c_X0_restart l D cI cF cJ q q_1 q_3 rb_2 0 1 0 0 0 0 0 0 0 0 0 1 (fun _ => 0) (Or.inr rfl)) (cwV 2 hts gX0_init_X0_restart rfl rfl rfl (by decide +kernel) ⟨Nat.le_of_ble_eq_true rfl, Nat.le_of_ble_eq_true rfl⟩) hK hP hD hS hA [0, 1, 3] [2] [1, 2, 0, 3] rfl rfl rfl rfl (by decide) rfl rfl rfl rfl rfl hl.1 (Nat.le_of_ble_eq_true rfl) ⟨Nat.le_of_ble_eq_true rfl, Nat.le_of_ble_eq_true rfl⟩ dX0_init_33 (fun H locs hP hD hS => ?_) rfl
  refine W.widen (k := 3) (n := 98) (by omega) (by omega) ?_
  exact hret (q_1, rb_2, q_3) _ _ _ _ dX0_init_36 hP hD hS
end
