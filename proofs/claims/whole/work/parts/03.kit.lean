/-! my own words: worlds, contracts that name the cells behind them, entry, end, calls -/
abbrev kTy (cI cF cJ : ClassId) : List (ClassId × FieldType) := [(cI, .int), (cF, .object RX0), (cJ, .long)]
def kPre (D : va_G) (tys : List (ClassId × FieldType)) (w0 : va_W) (sz : Nat) (U : State) : Prop := U.heap.size = sz ∧ va_P D vwCl w0 U.heap ∧ va_K D vwCl tys U ∧ va_D (fun _ => True) w0
def kAt (D : va_G) (tys : List (ClassId × FieldType)) (A : Nat → Prop) (w1 : va_W) (t : State) : Prop := va_P D vwCl w1 t.heap ∧ va_K D vwCl tys t ∧ va_D A w1
/-- an int (or boolean) method that makes nothing: cells w0 to w1, the answer r -/
def kI (l : Launch) (y : MethodName) (wy : List Cond) (rm : Room) (D : va_G) (tys : List (ClassId × FieldType)) (av : List Value) (w0 w1 : va_W) (r : Int32) : Prop :=
  ∀ sz : Nat, Met l y wy rm (va_Pc av (kPre D tys w0 sz)) (va_Qi (fun (x : Int32) (_ : Unit) => x = r) (fun _ t => kAt D tys (va_A w0 sz) w1 t) (va_A w0 sz)) 0 0 (va_A w0 sz)
/-- a void method that makes nothing: cells w0 to w1 -/
def kV (l : Launch) (y : MethodName) (wy : List Cond) (rm : Room) (D : va_G) (tys : List (ClassId × FieldType)) (av : List Value) (w0 w1 : va_W) : Prop :=
  ∀ sz : Nat, Met l y wy rm (va_Pc av (kPre D tys w0 sz)) (va_Qv (fun (_ : Unit) => True) (fun _ t => kAt D tys (va_A w0 sz) w1 t) (va_A w0 sz)) 0 0 (va_A w0 sz)
/-- what a walk stands on -/
def kSt (p : Program) (l : Launch) (R : Room) (s : State) (m : MethodId) (args : Array Value) (meth : Method) (c : Code) (cc : ByteArray) (nL : Nat) (ret : Option FieldType) (Ts : List Cond) (own : String) : Prop :=
  p.tables.exec = Jvm.exec ∧ c.code = cc ∧ meth.sig.returnType = ret ∧ c.maxLocals = nL ∧ s.vm.findClass own = some m.cls ∧ (∀ w ∈ Ts, w.before args s = true) ∧ meth.locks = false
theorem kPre_blind {D : va_G} {tys : List (ClassId × FieldType)} {w0 : va_W} {sz : Nat} {av : List Value} : FrameBlind (va_Pc av (kPre D tys w0 sz)) := by
  intro a U g mk q
  obtain ⟨q0, q1, qP, qK, qD⟩ := q
  exact ⟨q0, q1, qP, va_K.moved (u := U) (U := U.calling g mk a) (Vm.Alike.refl U.vm) qK, qD⟩
theorem kI_of {l : Launch} {y : MethodName} {wy wy' : List Cond} {rm : Room} {D : va_G} {tys : List (ClassId × FieldType)} {av : List Value} {w0 w1 : va_W} {r : Int32} {cc : ByteArray} {nL : Nat} {ty : FieldType} {own : String} {lv : List (Nat × Value)}
    (hy : plainName y.cls = true) (ho : y.cls = own) (hw : wy = Cond.code y cc nL (some ty) :: wy') (hlen : (lg_sl av).length ≤ nL) (hlv : lv_args 0 av = lv) (hn : narrow ty (.int r) = .int r)
    (body : ∀ (p : Program) (e : Env) (s : State) (m : MethodId) (args : Array Value) (below : List Frame) (meth : Method) (c : Code) (A : Nat → Prop) (ls : Array Slot) (Q : State → Prop), kSt p l rm s m args meth c cc nL (some ty) wy own → (∀ q : Nat, s.heap.size ≤ q → A q) →
      va_K D vwCl tys s → va_P D vwCl w0 s.heap → va_D A w0 → va_S A s.heap s.heap [] → lv_has ls nL lv →
      (∀ (H1 : Heap) (locs1 : List Loc) (ls1 : Array Slot) (pc1 : Nat) (v : Int32), decode cc pc1 = .ok (.ireturn, 1) → v = r → va_P D vwCl w1 H1 → va_D A w1 → va_S A s.heap H1 locs1 → W p l e rm s m args below meth c H1 locs1 0 0 Q (F0 m pc1 ls1 [.int v])) →
      W p l e rm s m args below meth c s.heap [] 0 0 Q (F0 m 0 ls [])) : kI l y wy rm D tys av w0 w1 r := by
  intro sz
  refine Met.ofW (cc := cc) (maxL := nL) (ret := some ty) hy hw ?_
  intro p e s m args below meth c s₁ B hml hv
  obtain ⟨rfl, hsz, hP, hK, hD0⟩ := hv
  subst hsz
  have hD := hD0.self (sz := s.heap.size)
  have hl := lv_entry av (n := nL) hlen
  rw [lg_entry_eq]
  rw [hlv] at hl
  refine body p e s m _ below meth c _ _ _ ⟨B.exec, B.bytes, B.returns, hml, by rw [← ho]; exact findClass_of_methodNamed B.named, atoms_spec (ws := wy) B.pre, B.notSynchronized⟩ (fun q h => Or.inr h) hK hP hD va_S.rf hl ?_
  intro H1 locs1 ls1 pc1 v hdg hv hP1 hD1 hS1
  exact W.zret (v := v) B.exec B.bytes B.returns (by rw [hv]; exact hn) (fun t ht hW => ⟨⟨v, (), rfl, hv, by rw [ht]; exact hP1, va_K.moved hW.alike hK, hD1⟩, hS1.F ht⟩) hS1.2.2 hdg B.notSynchronized
theorem kV_of {l : Launch} {y : MethodName} {wy wy' : List Cond} {rm : Room} {D : va_G} {tys : List (ClassId × FieldType)} {av : List Value} {w0 w1 : va_W} {cc : ByteArray} {nL : Nat} {own : String} {lv : List (Nat × Value)}
    (hy : plainName y.cls = true) (ho : y.cls = own) (hw : wy = Cond.code y cc nL none :: wy') (hlen : (lg_sl av).length ≤ nL) (hlv : lv_args 0 av = lv)
    (body : ∀ (p : Program) (e : Env) (s : State) (m : MethodId) (args : Array Value) (below : List Frame) (meth : Method) (c : Code) (A : Nat → Prop) (ls : Array Slot) (Q : State → Prop), kSt p l rm s m args meth c cc nL none wy own → (∀ q : Nat, s.heap.size ≤ q → A q) →
      va_K D vwCl tys s → va_P D vwCl w0 s.heap → va_D A w0 → va_S A s.heap s.heap [] → lv_has ls nL lv →
      (∀ (H1 : Heap) (locs1 : List Loc) (ls1 : Array Slot) (pc1 : Nat), decode cc pc1 = .ok (.return_, 1) → va_P D vwCl w1 H1 → va_D A w1 → va_S A s.heap H1 locs1 → W p l e rm s m args below meth c H1 locs1 0 0 Q (F0 m pc1 ls1 [])) →
      W p l e rm s m args below meth c s.heap [] 0 0 Q (F0 m 0 ls [])) : kV l y wy rm D tys av w0 w1 := by
  intro sz
  refine Met.ofW (cc := cc) (maxL := nL) (ret := none) hy hw ?_
  intro p e s m args below meth c s₁ B hml hv
  obtain ⟨rfl, hsz, hP, hK, hD0⟩ := hv
  subst hsz
  have hD := hD0.self (sz := s.heap.size)
  have hl := lv_entry av (n := nL) hlen
  rw [lg_entry_eq]
  rw [hlv] at hl
  refine body p e s m _ below meth c _ _ _ ⟨B.exec, B.bytes, B.returns, hml, by rw [← ho]; exact findClass_of_methodNamed B.named, atoms_spec (ws := wy) B.pre, B.notSynchronized⟩ (fun q h => Or.inr h) hK hP hD va_S.rf hl ?_
  intro H1 locs1 ls1 pc1 hdg hP1 hD1 hS1
  exact W.vret B.exec B.bytes B.returns (fun t ht hW => ⟨⟨(), rfl, trivial, by rw [ht]; exact hP1, va_K.moved hW.alike hK, hD1⟩, hS1.F ht⟩) hS1.2.2 hdg B.notSynchronized
/-- the shift without a sign, as the machine has it -/
def kU (x y : Int32) : Int32 := (x.toUInt32 >>> (y.toUInt32 &&& Int32.toUInt32 31)).toInt32
theorem kFm {α β : Type} (f : α → Option β) : ∀ (l : List α) (w : List β), l.map f = w.map some → l.filterMap f = w
  | [], [], _ => rfl
  | [], _ :: _, h => by simp at h
  | a :: l, [], h => by simp at h
  | a :: l, b :: w, h => by
    simp only [List.map_cons, List.cons.injEq] at h
    rw [List.filterMap_cons, h.1, kFm f l w h.2]
def b5 (x : Int32) : Nat := x.toBitVec.toNat % 32
theorem b5_and (x : Int32) : x &&& 31 = nI (b5 x) := pk_and x 5 (by decide)
theorem b5_lt (x : Int32) : b5 x < 32 := Nat.mod_lt _ (by decide)
theorem kZn {x : Int32} (h : x = 0 ∨ x = 1) : narrow .boolean (.int x) = .int x := by
  rcases h with rfl | rfl <;> decide
theorem kZf {x : Int32} (h : x = 0 ∨ x = 1) : fits .boolean (.int x) = true := by
  rcases h with rfl | rfl <;> decide
theorem kLe {a b : Nat} {x y : Int32} (hx : x = nI a) (hy : y = nI b) (ha : a < 2 ^ 31) (hb : b < 2 ^ 31) : x ≤ y ↔ a ≤ b := by
  subst hx; subst hy; exact nI_leI ha hb
theorem kLt {a b : Nat} {x y : Int32} (hx : x = nI a) (hy : y = nI b) (ha : a < 2 ^ 31) (hb : b < 2 ^ 31) : x < y ↔ a < b := by
  subst hx; subst hy; exact nI_ltI ha hb
theorem kEq {a b : Nat} {x y : Int32} (hx : x = nI a) (hy : y = nI b) (ha : a < 2 ^ 31) (hb : b < 2 ^ 31) : x = y ↔ a = b := by
  subst hx; subst hy; exact nI_eq ha hb
/-- n places from the first on set to 0 -/
def zr (f : Nat → Int32) : Nat → Nat → Int32
  | 0 => f
  | n + 1 => upd (zr f n) n 0
section KW
variable {p : Program} {l : Launch} {e : Env} {R : Room} {s : State} {m : MethodId} {args : Array Value} {below : List Frame} {meth : Method} {c : Code} {H : Heap} {locs : List Loc} {cells slots : Nat} {Q : State → Prop}
variable {cc : ByteArray} {pc : Nat} {ls : Array Slot} {rest : List Value}
/-- the number on top, in another form -/
theorem kTop {x y : Int32} (h : x = y) (k : W p l e R s m args below meth c H locs cells slots Q (F0 m pc ls (.int y :: rest))) : W p l e R s m args below meth c H locs cells slots Q (F0 m pc ls (.int x :: rest)) := by
  rw [h]; exact k
variable {D : va_G} {tys : List (ClassId × FieldType)} {A : Nat → Prop} {H0 : Heap} {ws : va_W} {a : Nat}
/-- an int array read at a number that is a Nat's -/
theorem kIald (hx : p.tables.exec = Jvm.exec) (hb : c.code = cc) (hK : va_K D vwCl tys s) (hP : va_P D vwCl ws H) (q0 t0 : Nat) {cA : ClassId} {n : Nat} {f : Nat → Int32} (ha : ws[q0]? = some (a, .inl (cA, n, .inl f))) (ht : tys[t0]? = some (cA, .int)) {i : Int32} {k : Nat} (hi : i = nI k) (hk : k < n) (hn : n < 2 ^ 31) (hdg : decode cc pc = .ok (.iaload, 1))
    (kk : W p l e R s m args below meth c H locs cells slots Q (F0 m (pc + 1) ls (.int (f k) :: rest))) : W p l e R s m args below meth c H locs cells slots Q (F0 m pc ls (.int i :: .ref a :: rest)) := by
  subst hi
  refine va_iald hx hb hK hP q0 t0 ha ht (vp_in_nI hk hn) hdg ?_
  rw [nI_clamp (by omega)]
  exact kk
theorem kIast (hx : p.tables.exec = Jvm.exec) (hb : c.code = cc) (hK : va_K D vwCl tys s) (hP : va_P D vwCl ws H) (hD : va_D A ws) (hS : va_S A H0 H locs) (q0 t0 : Nat) {cA : ClassId} {n : Nat} {f : Nat → Int32} {ws' : va_W} (ha : ws[q0]? = some (a, .inl (cA, n, .inl f))) (ht : tys[t0]? = some (cA, .int)) {i x : Int32} {k : Nat} (hi : i = nI k) (hk : k < n) (hn : n < 2 ^ 31) (hw : ws.set q0 (a, .inl (cA, n, .inl (upd f k x))) = ws') (hdg : decode cc pc = .ok (.iastore, 1))
    (kk : ∀ (H1 : Heap) (locs1 : List Loc), va_P D vwCl ws' H1 → va_D A ws' → va_S A H0 H1 locs1 → W p l e R s m args below meth c H1 locs1 cells slots Q (F0 m (pc + 1) ls rest)) : W p l e R s m args below meth c H locs cells slots Q (F0 m pc ls (.int x :: .int i :: .ref a :: rest)) := by
  subst hi
  refine va_iast hx hb hK hP hD hS q0 t0 ha ht (vp_in_nI hk hn) hdg ?_
  rw [nI_clamp (by omega), hw]
  exact kk
theorem kPut {own C : String} {T : u_T} {N ci index : Nat} {Ts : List Cond} {ws' : va_W} (hx : p.tables.exec = Jvm.exec) (hb : c.code = cc) (hts : ∀ w ∈ Ts, w.before args s = true) (hin : ∀ w ∈ u_ws C T N, w ∈ Ts) (ty0 : Nat → FieldType) (hty : ∀ k, k < N → parseFieldDescriptor (T k).2.2.1 = some (ty0 k)) (hnm : ∀ a, a < N → ∀ b, b < N → a ≠ b → (T a).2.1 ≠ (T b).2.1) (hown : s.vm.findClass own = some m.cls) (hK : va_K D vwCl tys s) (hP : va_P D vwCl ws H) (hD : va_D A ws) (hS : va_S A H0 H locs) (q0 : Nat) {fs : List Value} (he : ws[q0]? = some (a, .inr (ci, fs))) (hc : vwCl[ci]? = some (C, T, N)) (k : Nat) (hk : k < N) (hlink : (Cond.fieldLink own index (T k).1 (T k).2.1 (T k).2.2.1).before args s = true) (hfin : (T k).2.2.2 = false) {ty : FieldType} {v : Value} (hd : parseFieldDescriptor (T k).2.2.1 = some ty) (hn : narrow ty v = v) (hfit : fits ty v = true) (hl : k < fs.length) (hw : ws.set q0 (a, .inr (ci, fs.set k v)) = ws')
    (hdg : decode cc pc = .ok (.putfield index, 3)) (kk : ∀ (H1 : Heap) (locs1 : List Loc), va_P D vwCl ws' H1 → va_D A ws' → va_S A H0 H1 locs1 → W p l e R s m args below meth c H1 locs1 cells slots Q (F0 m (pc + 3) ls rest)) : W p l e R s m args below meth c H locs cells slots Q (F0 m pc ls (v :: .ref a :: rest)) := by
  refine va_put hx hb hts hin ty0 hty hnm hown hK hP hD hS q0 he hc k hk hlink (fun _ h => h) hfin hd hn hfit hl hdg ?_
  rw [hw]
  exact kk
/-- System.arraycopy of ints -/
theorem kCopy {own : String} {index : Nat} {ws' : va_W} (hx : p.tables.exec = Jvm.exec) (hb : c.code = cc) (hml : c.maxLocals = ls.size) (hown : s.vm.findClass own = some m.cls) (hlink : (Cond.methodLink own index arraycopyName).before args s = true) (hnat : (Cond.native arraycopyName).before args s = true) (hstat : (Cond.static arraycopyName).before args s = true) (hini : (Cond.initialized "java/lang/System").before args s = true)
    (hK : va_K D vwCl tys s) (hP : va_P D vwCl ws H) (hD : va_D A ws) (hS : va_S A H0 H locs) (q0 q1 t0 : Nat) {a0 : Nat} {cA : ClassId} {n0 n1 : Nat} {f g : Nat → Int32} (ha0 : ws[q0]? = some (a0, .inl (cA, n0, .inl f))) (ha1 : ws[q1]? = some (a, .inl (cA, n1, .inl g))) (ht : tys[t0]? = some (cA, .int))
    {isp idp ik : Int32} {sp dp k : Nat} (h1 : isp = nI sp) (h2 : idp = nI dp) (h3 : ik = nI k) (h4 : sp + k ≤ n0) (h5 : dp + k ≤ n1) (h6 : n0 < 2 ^ 31) (h7 : n1 < 2 ^ 31) (hw : ws.set q1 (a, .inl (cA, n1, .inl (va_cpy f g sp dp k))) = ws')
    (hframes : 1 ≤ R.frames) (hlocals : (rest.map fun v => v.category).sum + (nativeFrameWords "java/lang/System" "arraycopy" 5 + 11) ≤ R.locals) (hdg : decode cc pc = .ok (.invokestatic index, 3))
    (kk : ∀ (H1 : Heap) (locs1 : List Loc), va_P D vwCl ws' H1 → va_D A ws' → va_S A H0 H1 locs1 → W p l e R s m args below meth c H1 locs1 cells slots Q (F0 m (pc + 3) ls rest)) : W p l e R s m args below meth c H locs cells slots Q (F0 m pc ls (.int ik :: .int idp :: .ref a :: .int isp :: .ref a0 :: rest)) := by
  subst h1; subst h2; subst h3
  have e1 : (nI sp).toNatClampNeg = sp := nI_clamp (by omega)
  have e2 : (nI dp).toNatClampNeg = dp := nI_clamp (by omega)
  have e3 : (nI k).toNatClampNeg = k := nI_clamp (by omega)
  refine va_copyi hx hb hml hown hlink hnat hstat hini hK hP hD hS q0 q1 t0 t0 ha0 ha1 ht ht rfl (nI_pos (by omega)) (nI_pos (by omega)) (nI_pos (by omega)) (by rw [e1, e3]; exact h4) (by rw [e2, e3]; exact h5) (fun _ _ => rfl) hframes hlocals hdg ?_
  rw [e1, e2, e3, hw]
  exact kk
variable {wc wr w1 ws' : va_W} {y : MethodName} {bytes : ByteArray} {maxL nL n index ci : Nat} {ret : Option FieldType} {wy Ts : List Cond} {rm : Room} {own C : String} {b : Addr} {As : List Value} {fs : List Value} {T : u_T} {N : Nat}
/-- a call of an instance method that answers an int: its cells are cut out, what came back is put beside the rest -/
theorem kCallI {r : Int32} (S : CallFix p m c cc nL s args Ts own) (hM : kI l y wy rm D tys (.ref b :: As) wc w1 r) (cw : CallW R s args own C index y bytes maxL ret wy rm 0 0 n)
    (hK : va_K D vwCl tys s) (hP : va_P D vwCl ws H) (hD : va_D A ws) (hS : va_S A H0 H locs) (hA : ∀ q, H0.size ≤ q → A q) (isC isR perm : List Nat)
    (hC : isC.map (fun i => ws[i]?) = wc.map some) (hnC : va_nd isC = true) (hR : isR.map (fun i => ws[i]?) = wr.map some) (hn : va_nd isR = true) (hdis : ∀ i ∈ isR, i ∉ isC) (hpm : perm.map (fun i => (wr ++ w1)[i]?) = ws'.map some) (hnp : va_nd perm = true)
    (hc : vwCl[ci]? = some (C, T, N)) (he : wc[0]? = some (b, .inr (ci, fs))) (hAs : As.length = n) (hsize : ls.size = nL) (hW : (rest.map fun v => v.category).sum ≤ 8) (hf : cells ≤ R.cells ∧ slots ≤ R.slots) (hdg : decode cc pc = .ok (.invokevirtual index, 3))
    (kk : ∀ (H1 : Heap) (locs1 : List Loc), va_P D vwCl ws' H1 → va_D A ws' → va_S A H0 H1 locs1 → W p l e R s m args below meth c H1 locs1 cells slots Q (F0 m (pc + 3) ls (.int r :: rest))) {st0 : List Value} (hst : st0 = As.reverse ++ .ref b :: rest) : W p l e R s m args below meth c H locs cells slots Q (F0 m pc ls st0) := by
  have hCf : isC.filterMap (fun i => ws[i]?) = wc := kFm _ _ _ hC
  have hPc := hP.sub isC hCf
  have hDc := hD.sub isC hnC hC
  have hFc := va_free hD hS hA isC hC
  subst hst
  refine va_calli (va_runV (As := As) (rest := rest) S (hM H.size) cw ⟨kPre_blind, va_recv hK hPc hc he, fun U hU hW => ⟨rfl, by rw [hU], by rw [hU]; exact hPc, va_K.moved hW.alike hK, hDc.weaken (fun _ _ _ _ => trivial)⟩⟩ rfl hAs hsize rfl (lv_room hW) hdg hf) hS (fun q _ h => hFc q h) hFc (fun r1 u t H1 locs1 ht hvm hw hB hz1 hk1 hS1 => ?_)
  obtain ⟨hP1, hK1, hD1⟩ := hB
  rw [ht] at hP1
  obtain ⟨hP2, hD2⟩ := va_join hP hD isC isR hC hR hn hdis hk1 hFc hP1 hD1
  have hpf : perm.filterMap (fun i => (wr ++ w1)[i]?) = ws' := kFm _ _ _ hpm
  subst hw
  exact kk H1 locs1 (hP2.sub perm hpf) (hD2.sub perm hnp hpm) hS1
theorem kCallV (S : CallFix p m c cc nL s args Ts own) (hM : kV l y wy rm D tys (.ref b :: As) wc w1) (cw : CallW R s args own C index y bytes maxL ret wy rm 0 0 n)
    (hK : va_K D vwCl tys s) (hP : va_P D vwCl ws H) (hD : va_D A ws) (hS : va_S A H0 H locs) (hA : ∀ q, H0.size ≤ q → A q) (isC isR perm : List Nat)
    (hC : isC.map (fun i => ws[i]?) = wc.map some) (hnC : va_nd isC = true) (hR : isR.map (fun i => ws[i]?) = wr.map some) (hn : va_nd isR = true) (hdis : ∀ i ∈ isR, i ∉ isC) (hpm : perm.map (fun i => (wr ++ w1)[i]?) = ws'.map some) (hnp : va_nd perm = true)
    (hc : vwCl[ci]? = some (C, T, N)) (he : wc[0]? = some (b, .inr (ci, fs))) (hAs : As.length = n) (hsize : ls.size = nL) (hW : (rest.map fun v => v.category).sum ≤ 8) (hf : cells ≤ R.cells ∧ slots ≤ R.slots) (hdg : decode cc pc = .ok (.invokevirtual index, 3))
    (kk : ∀ (H1 : Heap) (locs1 : List Loc), va_P D vwCl ws' H1 → va_D A ws' → va_S A H0 H1 locs1 → W p l e R s m args below meth c H1 locs1 cells slots Q (F0 m (pc + 3) ls rest)) {st0 : List Value} (hst : st0 = As.reverse ++ .ref b :: rest) : W p l e R s m args below meth c H locs cells slots Q (F0 m pc ls st0) := by
  have hCf : isC.filterMap (fun i => ws[i]?) = wc := kFm _ _ _ hC
  have hPc := hP.sub isC hCf
  have hDc := hD.sub isC hnC hC
  have hFc := va_free hD hS hA isC hC
  subst hst
  refine va_callv (va_runV (As := As) (rest := rest) S (hM H.size) cw ⟨kPre_blind, va_recv hK hPc hc he, fun U hU hW => ⟨rfl, by rw [hU], by rw [hU]; exact hPc, va_K.moved hW.alike hK, hDc.weaken (fun _ _ _ _ => trivial)⟩⟩ rfl hAs hsize rfl (lv_room hW) hdg hf) hS (fun q _ h => hFc q h) hFc (fun u t H1 locs1 ht hvm hw hB hz1 hk1 hS1 => ?_)
  obtain ⟨hP1, hK1, hD1⟩ := hB
  rw [ht] at hP1
  obtain ⟨hP2, hD2⟩ := va_join hP hD isC isR hC hR hn hdis hk1 hFc hP1 hD1
  have hpf : perm.filterMap (fun i => (wr ++ w1)[i]?) = ws' := kFm _ _ _ hpm
  exact kk H1 locs1 (hP2.sub perm hpf) (hD2.sub perm hnp hpm) hS1
/-- a static call of one's own class that answers an int and looks at no cell -/
theorem kCallS {r : Int32} (S : CallFix p m c cc nL s args Ts own) (hM : kI l y wy rm D tys As [] [] r) (cw : CallB R s args own index y bytes maxL ret wy rm 0 0 n ∧ (Cond.static y).before args s = true)
    (hK : va_K D vwCl tys s) (hP : va_P D vwCl ws H) (hD : va_D A ws) (hS : va_S A H0 H locs) (hA : ∀ q, H0.size ≤ q → A q)
    (hAs : As.length = n) (hsize : ls.size = nL) (hW : (rest.map fun v => v.category).sum ≤ 8) (hf : cells ≤ R.cells ∧ slots ≤ R.slots) (hdg : decode cc pc = .ok (.invokestatic index, 3))
    (kk : ∀ (H1 : Heap) (locs1 : List Loc), va_P D vwCl ws H1 → va_D A ws → va_S A H0 H1 locs1 → W p l e R s m args below meth c H1 locs1 cells slots Q (F0 m (pc + 3) ls (.int r :: rest))) {st0 : List Value} (hst : st0 = As.reverse ++ rest) : W p l e R s m args below meth c H locs cells slots Q (F0 m pc ls st0) := by
  have hPc : va_P D vwCl [] H := hP.sub [] rfl
  have hDc : va_D A [] := hD.sub [] rfl rfl
  have hFc := va_free (wc := []) hD hS hA [] rfl
  subst hst
  refine va_calli (va_runS (As := As) (rest := rest) S (hM H.size) cw ⟨kPre_blind, fun U hU hW => ⟨rfl, by rw [hU], by rw [hU]; exact hPc, va_K.moved hW.alike hK, hDc.weaken (fun _ _ _ _ => trivial)⟩⟩ rfl hAs hsize rfl (lv_room hW) hdg hf) hS (fun q _ h => hFc q h) hFc (fun r1 u t H1 locs1 ht hvm hw hB hz1 hk1 hS1 => ?_)
  subst hw
  refine kk H1 locs1 (hP.kept fun k q hq => hk1 q.1 (hP k q hq).lt ?_) hD hS1
  intro h
  rcases h with ⟨k2, e2, h2⟩ | h2
  · simp at h2
  · exact absurd (hP k q hq).lt (Nat.not_lt.mpr h2)
end KW
