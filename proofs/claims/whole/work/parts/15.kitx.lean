/-! ints over the given things; methods that throw -/
def kIG (nd : Nat) (l : Launch) (y : MethodName) (wy : List Cond) (rm : Room) (D : va_G) (tys : List (ClassId × FieldType)) (av : List Value) (w0 w1 : va_W) (r : Int32) : Prop :=
  ∀ sz : Nat, Met l y wy rm (va_Pc av (kPreG nd D tys w0 sz)) (va_Qi (fun (x : Int32) (_ : Unit) => x = r) (fun _ t => kAt D tys (va_A w0 sz) w1 t) (va_A w0 sz)) 0 0 (va_A w0 sz)
theorem kIG_of {nd : Nat} {l : Launch} {y : MethodName} {wy wy' : List Cond} {rm : Room} {D : va_G} {tys : List (ClassId × FieldType)} {av : List Value} {w0 w1 : va_W} {r : Int32} {cc : ByteArray} {nL : Nat} {ty : FieldType} {own : String} {lv : List (Nat × Value)}
    (hy : plainName y.cls = true) (ho : y.cls = own) (hw : wy = Cond.code y cc nL (some ty) :: wy') (hlen : (lg_sl av).length ≤ nL) (hlv : lv_args 0 av = lv) (hn : narrow ty (.int r) = .int r)
    (body : ∀ (p : Program) (e : Env) (s : State) (m : MethodId) (args : Array Value) (below : List Frame) (meth : Method) (c : Code) (A : Nat → Prop) (ls : Array Slot) (Q : State → Prop), kSt p l rm s m args meth c cc nL (some ty) wy own → (∀ q : Nat, s.heap.size ≤ q → A q) → kG nd A s →
      va_K D vwCl tys s → va_P D vwCl w0 s.heap → va_D A w0 → va_S A s.heap s.heap [] → lv_has ls nL lv →
      (∀ (H1 : Heap) (locs1 : List Loc) (ls1 : Array Slot) (pc1 : Nat) (v : Int32), decode cc pc1 = .ok (.ireturn, 1) → v = r → va_P D vwCl w1 H1 → va_D A w1 → va_S A s.heap H1 locs1 → W p l e rm s m args below meth c H1 locs1 0 0 Q (F0 m pc1 ls1 [.int v])) →
      W p l e rm s m args below meth c s.heap [] 0 0 Q (F0 m 0 ls [])) : kIG nd l y wy rm D tys av w0 w1 r := by
  intro sz
  refine Met.ofW (cc := cc) (maxL := nL) (ret := some ty) hy hw ?_
  intro p e s m args below meth c s₁ B hml hv
  obtain ⟨rfl, ⟨hsz, hP, hK, hD0⟩, hG⟩ := hv
  subst hsz
  have hD := hD0.self (sz := s.heap.size)
  have hl := lv_entry av (n := nL) hlen
  rw [lg_entry_eq]
  rw [hlv] at hl
  refine body p e s m _ below meth c _ _ _ ⟨B.exec, B.bytes, B.returns, hml, by rw [← ho]; exact findClass_of_methodNamed B.named, atoms_spec (ws := wy) B.pre, B.notSynchronized⟩ (fun q h => Or.inr h) hG hK hP hD va_S.rf hl ?_
  intro H1 locs1 ls1 pc1 v hdg hv hP1 hD1 hS1
  exact W.zret (v := v) B.exec B.bytes B.returns (by rw [hv]; exact hn) (fun t ht hW => ⟨⟨v, (), rfl, hv, by rw [ht]; exact hP1, va_K.moved hW.alike hK, hD1⟩, hS1.F ht⟩) hS1.2.2 hdg B.notSynchronized
/-- a call that throws an E, and changes nothing -/
def kT (nd : Nat) (l : Launch) (y : MethodName) (wy : List Cond) (rm : Room) (D : va_G) (tys : List (ClassId × FieldType)) (av : List Value) (w0 : va_W) (E : String) : Prop :=
  ∀ sz : Nat, vx_Met l y wy rm (va_Pc av (kPreG nd D tys w0 sz)) (va_Qv (fun (_ : Unit) => False) (fun _ _ => True) (va_A w0 sz)) (vx_X (fun (_ : Unit) => True) (fun E1 _ t => E1 = E ∧ kAt D tys (va_A w0 sz) w0 t) (va_A w0 sz)) 1 6 (va_A w0 sz)
abbrev kNs : List String := ["java/lang/RuntimeException", "java/lang/Exception"]
def kBs (E : String) : List Cond := [.castable E E, .declares (Bundle.initS "java/lang/RuntimeException"), .declares (Bundle.initS "java/lang/Exception"), .declares (Bundle.initS Bundle.tN)]
theorem kT_of {nd : Nat} {l : Launch} {y : MethodName} {wy wy' : List Cond} {rm : Room} {D : va_G} {tys : List (ClassId × FieldType)} {av : List Value} {w0 : va_W} {E : String} {cc : ByteArray} {nL : Nat} {ret : Option FieldType} {own : String} {lv : List (Nat × Value)}
    (hy : plainName y.cls = true) (ho : y.cls = own) (hw : wy = Cond.code y cc nL ret :: wy') (hlen : (lg_sl av).length ≤ nL) (hlv : lv_args 0 av = lv)
    (body : ∀ (p : Program) (e : Env) (s : State) (m : MethodId) (args : Array Value) (below : List Frame) (meth : Method) (c : Code) (A : Nat → Prop) (ls : Array Slot) (Qc : Array Value → State → Outcome → State → Prop), kSt p l rm s m args meth c cc nL ret wy own → (∀ x ∈ c.exceptionTable.toList, False) → (∀ q : Nat, s.heap.size ≤ q → A q) → kG nd A s →
      va_K D vwCl tys s → va_P D vwCl w0 s.heap → va_D A w0 → va_S A s.heap s.heap [] → lv_has ls nL lv →
      W p l e rm s m args below meth c s.heap [] 0 0 (vx_MQ below Qc (vx_X (fun (_ : Unit) => True) (fun E1 _ t => E1 = E ∧ kAt D tys A w0 t) A) args s 1 6 A) (F0 m 0 ls [])) : kT nd l y wy rm D tys av w0 E := by
  intro sz
  refine vx_ofW (cc := cc) (maxL := nL) (ret := ret) hy hw ?_
  intro p e s m args below meth c s₁ B hml hex hv
  obtain ⟨rfl, ⟨hsz, hP, hK, hD0⟩, hG⟩ := hv
  subst hsz
  have hD := hD0.self (sz := s.heap.size)
  have hl := lv_entry av (n := nL) hlen
  rw [lg_entry_eq]
  rw [hlv] at hl
  exact body p e s m _ below meth c _ _ _ ⟨B.exec, B.bytes, B.returns, hml, by rw [← ho]; exact findClass_of_methodNamed B.named, atoms_spec (ws := wy) B.pre, B.notSynchronized⟩ hex (fun q h => Or.inr h) hG hK hP hD va_S.rf hl
theorem kG_words {nd : Nat} {A : Nat → Prop} {s : State} {args : Array Value} {E : String} (hG : kG nd A s) (hE : (E, E) ∈ kCs) : ∀ w ∈ kBs E, w.before args s = true := by
  have hN := hG.2.2.2.2
  refine vx_c ((hN.2.1 _ hE).use rfl) (vx_c ((hN.2.2.1 (Bundle.initS "java/lang/RuntimeException") (by simp [kDs])).use rfl) (vx_c ((hN.2.2.1 (Bundle.initS "java/lang/Exception") (by simp [kDs])).use rfl) (vx_c ((hN.2.2.1 (Bundle.initS Bundle.tN) (by simp [kDs])).use rfl) vx_n)))
set_option maxHeartbeats 4000000 in
theorem kThrow {p : Program} {l : Launch} {e : Env} {R : Room} {s : State} {m : MethodId} {args : Array Value} {below : List Frame} {meth : Method} {c : Code} {H : Heap} {locs : List Loc} {Qc : Array Value → State → Outcome → State → Prop} {cc : ByteArray} {pc nL : Nat} {ls : Array Slot} {rest : List Value} {D : va_G} {tys : List (ClassId × FieldType)} {A : Nat → Prop} {w0 : va_W} {nd : Nat} {E text : String} {ik is ic : Nat} {Ts : List Cond}
    (hl : l.stackTraces = false) (hx : p.tables.exec = Jvm.exec) (hb : c.code = cc) (hml : c.maxLocals = nL) (hown : s.vm.findClass RX2 = some m.cls) (hts : ∀ w ∈ Ts, w.before args s = true) (hlocks : meth.locks = false) (hex : ∀ x ∈ c.exceptionTable.toList, False)
    (hE : (E, E) ∈ kCs) (hfit : Bundle.fit E = true) (hst : (is, text) ∈ kSs) (hk : (Cond.classLink RX2 ik E).before args s = true) (hini : (Cond.initialized E).before args s = true) (h1 : ∀ w ∈ (vx_atS RX2 ic E kNs).filter goodWord, w ∈ Ts) (h2 : ∀ w ∈ (vx_atS RX2 ic E kNs).filter (fun w => !goodWord w), w ∈ kBs E) (hgd : ∀ w ∈ Cond.classLink RX2 ik E :: Cond.initialized E :: vx_atS RX2 ic E kNs, vx_ot w = true)
    (hG : kG nd A s) (hK : va_K D vwCl tys s) (hP : va_P D vwCl w0 H) (hD : va_D A w0) (hS : va_S A s.heap H locs) (hsize : ls.size = nL)
    (hRf : 5 < R.frames) (hRl : (rest.map fun v => v.category).sum + 82 ≤ R.locals) (hRc : 1 ≤ R.cells) (hRs : 6 ≤ R.slots)
    (d0 : decode cc pc = .ok (.new ik, 3)) (d3 : decode cc (pc + 3) = .ok (.dup, 1)) (d4 : decode cc (pc + 4) = .ok (.ldc is, 2)) (d6 : decode cc (pc + 6) = .ok (.invokespecial ic, 3)) (d9 : decode cc (pc + 9) = .ok (.athrow, 1)) :
    W p l e R s m args below meth c H locs 0 0 (vx_MQ below Qc (vx_X (fun (_ : Unit) => True) (fun E1 _ t => E1 = E ∧ kAt D tys A w0 t) A) args s 1 6 A) (F0 m pc ls rest) := by
  obtain ⟨sa, hsa⟩ := hG.2.2.2.2.2.2.2.1 _ hst
  refine vx_throwS hx hb hl (names := kNs) hown hfit (by decide) hk hini hsa (vx_hat (fun w hw => hts w (h1 w hw)) h2 (kG_words hG hE)) hgd hG.2.2.1 hG.2.2.2.1 hS (hsize.trans hml.symm) d0 d3 d4 d6 d9 (fun x hx => (hex x hx).elim) hRf hRl (by omega) (by omega) hlocks ?_ hS.2.2 (by omega) (by omega)
  intro t hal hsz hq
  refine ⟨(), trivial, ⟨rfl, hP.kept (fun k q hk => hq q.1 (hP k q hk).lt), va_K.moved hal hK, hD⟩, Nat.le_trans hS.1 hsz, fun q h9 hA => ?_⟩
  rw [hq q (Nat.lt_of_lt_of_le h9 hS.1)]
  exact hS.2.1 q h9 hA
theorem kX1a : ∀ w ∈ (vx_atS RX2 36 kE1 kNs).filter (fun w => !goodWord w), w ∈ kBs kE1 := by decide +kernel
theorem kX1b : ∀ w ∈ Cond.classLink RX2 32 kE1 :: Cond.initialized kE1 :: vx_atS RX2 36 kE1 kNs, vx_ot w = true := by decide +kernel
theorem kX2a : ∀ w ∈ (vx_atS RX2 62 kE2 kNs).filter (fun w => !goodWord w), w ∈ kBs kE2 := by decide +kernel
theorem kX2b : ∀ w ∈ Cond.classLink RX2 59 kE2 :: Cond.initialized kE2 :: vx_atS RX2 62 kE2 kNs, vx_ot w = true := by decide +kernel
theorem kX3a : ∀ w ∈ (vx_atS RX2 107 kE3 kNs).filter (fun w => !goodWord w), w ∈ kBs kE3 := by decide +kernel
theorem kX3b : ∀ w ∈ Cond.classLink RX2 103 kE3 :: Cond.initialized kE3 :: vx_atS RX2 107 kE3 kNs, vx_ot w = true := by decide +kernel
def fBecome (F : FS) (kn : Nat) (ds : Int32) : FS := (kn, fN F, ds, F.2.2.2)
