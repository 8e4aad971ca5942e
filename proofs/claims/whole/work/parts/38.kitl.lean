/-! the law's own calls: wrappers that catch -/
section KL
variable {p : Program} {l : Launch} {e : Env} {R : Room} {s : State} {m : MethodId} {args : Array Value} {below : List Frame} {meth : Method} {c : Code} {H : Heap} {locs : List Loc} {cells slots : Nat} {Q : State → Prop}
variable {cc : ByteArray} {pc : Nat} {ls : Array Slot} {rest : List Value}
theorem kLcmp (hexec : p.tables.exec = Jvm.exec) (hb : c.code = cc) {x y : Int64} (hxy : y = x) (hdg : decode cc pc = .ok (.lcmp, 1))
    (k : W p l e R s m args below meth c H locs cells slots Q (F0 m (pc + 1) ls (.int 0 :: rest))) : W p l e R s m args below meth c H locs cells slots Q (F0 m pc ls (.long y :: .long x :: rest)) := by
  subst hxy
  intro T hT X
  obtain ⟨t, a, b⟩ := k T hT X
  refine ⟨t, ?_, b⟩
  jvm_step X.here [X.here.top, hexec, hb, hdg]
  exact a
end KL
def kIW (nd : Nat) (l : Launch) (y : MethodName) (wy : List Cond) (rm : Room) (D : va_G) (tys : List (ClassId × FieldType)) (av : List Value) (w0 w1 : va_W) (r : Int32) (mc ms : Nat) : Prop :=
  ∀ sz : Nat, Met l y wy rm (va_Pc av (kPreG nd D tys w0 sz)) (va_Qi (fun (x : Int32) (_ : Unit) => x = r) (fun _ t => kAt D tys (va_A w0 sz) w1 t) (va_A w0 sz)) mc ms (va_A w0 sz)
theorem kIW_of {nd mc ms : Nat} {l : Launch} {y : MethodName} {wy wy' : List Cond} {rm : Room} {D : va_G} {tys : List (ClassId × FieldType)} {av : List Value} {w0 w1 : va_W} {r : Int32} {cc : ByteArray} {nL : Nat} {ty : FieldType} {own : String} {hh : List (Nat × Nat × Nat × Nat)} {lv : List (Nat × Value)}
    (hy : plainName y.cls = true) (ho : y.cls = own) (hw : wy = Cond.codeWith y cc nL (some ty) hh :: wy') (hlen : (lg_sl av).length ≤ nL) (hlv : lv_args 0 av = lv) (hn : narrow ty (.int r) = .int r)
    (body : ∀ (p : Program) (e : Env) (s : State) (m : MethodId) (args : Array Value) (below : List Frame) (meth : Method) (c : Code) (A : Nat → Prop) (ls : Array Slot) (Q : State → Prop), kSt p l rm s m args meth c cc nL (some ty) wy own → c.exceptionTable.toList = tableOf hh → (∀ q : Nat, s.heap.size ≤ q → A q) → kG nd A s →
      va_K D vwCl tys s → va_P D vwCl w0 s.heap → va_D A w0 → va_S A s.heap s.heap [] → lv_has ls nL lv →
      (∀ (H1 : Heap) (locs1 : List Loc) (ls1 : Array Slot) (pc1 : Nat) (v : Int32), decode cc pc1 = .ok (.ireturn, 1) → v = r → va_P D vwCl w1 H1 → va_D A w1 → va_S A s.heap H1 locs1 → W p l e rm s m args below meth c H1 locs1 mc ms Q (F0 m pc1 ls1 [.int v])) →
      W p l e rm s m args below meth c s.heap [] 0 0 Q (F0 m 0 ls [])) : kIW nd l y wy rm D tys av w0 w1 r mc ms := by
  intro sz
  refine va_MetW (cc := cc) (maxL := nL) (ret := some ty) (hh := hh) hy hw ?_
  intro p e s m args below meth c s₁ B hml hv
  obtain ⟨rfl, ⟨hsz, hP, hK, hD0⟩, hG⟩ := hv
  subst hsz
  have hD := hD0.self (sz := s.heap.size)
  have hl := lv_entry av (n := nL) hlen
  have hts : ∀ w ∈ wy, w.before _ s = true := atoms_spec (ws := wy) B.pre
  have hex := vx_table (x := y) B (hts (Cond.codeWith y cc nL (some ty) hh) (by rw [hw]; exact List.mem_cons_self))
  rw [lg_entry_eq]
  rw [hlv] at hl
  refine body p e s m _ below meth c _ _ _ ⟨B.exec, B.bytes, B.returns, hml, by rw [← ho]; exact findClass_of_methodNamed B.named, hts, B.notSynchronized⟩ hex (fun q h => Or.inr h) hG hK hP hD va_S.rf hl ?_
  intro H1 locs1 ls1 pc1 v hdg hv hP1 hD1 hS1
  exact W.zret (v := v) B.exec B.bytes B.returns (by rw [hv]; exact hn) (fun t ht hW => ⟨⟨v, (), rfl, hv, by rw [ht]; exact hP1, va_K.moved hW.alike hK, hD1⟩, hS1.F ht⟩) hS1.2.2 hdg B.notSynchronized
section KLW
variable {p : Program} {l : Launch} {e : Env} {R : Room} {s : State} {m : MethodId} {args : Array Value} {below : List Frame} {meth : Method} {c : Code} {H : Heap} {locs : List Loc} {cells slots : Nat} {Q : State → Prop}
variable {cc : ByteArray} {pc : Nat} {ls : Array Slot} {rest : List Value} {D : va_G} {tys : List (ClassId × FieldType)} {A : Nat → Prop} {ws : va_W} {a nd : Nat}
variable {wc wr w1 ws' : va_W} {y : MethodName} {bytes : ByteArray} {maxL nL n index ci : Nat} {ret : Option FieldType} {wy Ts : List Cond} {rm : Room} {own C : String} {b : Addr} {As : List Value} {fs : List Value} {T : u_T} {N : Nat}
theorem kCallIG {r : Int32} (hG : kG nd A s) (S : CallFix p m c cc nL s args Ts own) (hM : kIG nd l y wy rm D tys (.ref b :: As) wc w1 r) (cw : CallW R s args own C index y bytes maxL ret wy rm 0 0 n)
    (hK : va_K D vwCl tys s) (hP : va_P D vwCl ws H) (hD : va_D A ws) (hS : va_S A s.heap H locs) (hA : ∀ q, s.heap.size ≤ q → A q) (isC isR perm : List Nat)
    (hC : isC.map (fun i => ws[i]?) = wc.map some) (hnC : va_nd isC = true) (hR : isR.map (fun i => ws[i]?) = wr.map some) (hn : va_nd isR = true) (hdis : ∀ i ∈ isR, i ∉ isC) (hpm : perm.map (fun i => (wr ++ w1)[i]?) = ws'.map some) (hnp : va_nd perm = true)
    (hc : vwCl[ci]? = some (C, T, N)) (he : wc[0]? = some (b, .inr (ci, fs))) (hAs : As.length = n) (hsize : ls.size = nL) (hW : (rest.map fun v => v.category).sum ≤ 8) (hf : cells ≤ R.cells ∧ slots ≤ R.slots) (hdg : decode cc pc = .ok (.invokevirtual index, 3))
    (kk : ∀ (H1 : Heap) (locs1 : List Loc), va_P D vwCl ws' H1 → va_D A ws' → va_S A s.heap H1 locs1 → W p l e R s m args below meth c H1 locs1 cells slots Q (F0 m (pc + 3) ls (.int r :: rest))) {st0 : List Value} (hst : st0 = As.reverse ++ .ref b :: rest) : W p l e R s m args below meth c H locs cells slots Q (F0 m pc ls st0) := by
  have hCf : isC.filterMap (fun i => ws[i]?) = wc := kFm _ _ _ hC
  have hPc := hP.sub isC hCf
  have hDc := hD.sub isC hnC hC
  have hFc := va_free hD hS hA isC hC
  subst hst
  refine va_calli (va_runV (As := As) (rest := rest) S (hM H.size) cw ⟨kPreG_blind, va_recv hK hPc hc he, fun U hU hW => ⟨rfl, ⟨by rw [hU], by rw [hU]; exact hPc, va_K.moved hW.alike hK, hDc.weaken (fun _ _ _ _ => trivial)⟩, hG.tr hW (fun a h1 h2 => by rw [hU]; exact hS.2.1 a h1 h2) hFc⟩⟩ rfl hAs hsize rfl (lv_room hW) hdg hf) hS (fun q _ h => hFc q h) hFc (fun r1 u t H1 locs1 ht hvm hw hB hz1 hk1 hS1 => ?_)
  obtain ⟨hP1, hK1, hD1⟩ := hB
  rw [ht] at hP1
  obtain ⟨hP2, hD2⟩ := va_join hP hD isC isR hC hR hn hdis hk1 hFc hP1 hD1
  have hpf : perm.filterMap (fun i => (wr ++ w1)[i]?) = ws' := kFm _ _ _ hpm
  subst hw
  exact kk H1 locs1 (hP2.sub perm hpf) (hD2.sub perm hnp hpm) hS1
/-- a call that throws -/
theorem kCallT {E : String} (hG : kG nd A s) (S : CallFix p m c cc nL s args Ts own) (hM : kT nd l y wy rm D tys (.ref b :: As) wc E) (cw : CallW R s args own C index y bytes maxL ret wy rm 1 6 n)
    (hK : va_K D vwCl tys s) (hP : va_P D vwCl ws H) (hD : va_D A ws) (hS : va_S A s.heap H locs) (hA : ∀ q, s.heap.size ≤ q → A q) (isC isR perm : List Nat)
    (hC : isC.map (fun i => ws[i]?) = wc.map some) (hnC : va_nd isC = true) (hR : isR.map (fun i => ws[i]?) = wr.map some) (hn : va_nd isR = true) (hdis : ∀ i ∈ isR, i ∉ isC) (hpm : perm.map (fun i => (wr ++ wc)[i]?) = ws.map some) (hnp : va_nd perm = true)
    (hc : vwCl[ci]? = some (C, T, N)) (he : wc[0]? = some (b, .inr (ci, fs))) (hAs : As.length = n) (hsize : ls.size = nL) (hW : (rest.map fun v => v.category).sum ≤ 8) (hf : cells + 1 ≤ R.cells ∧ slots + 6 ≤ R.slots) (hdg : decode cc pc = .ok (.invokevirtual index, 3))
    (kk : ∀ (H1 : Heap) (locs1 : List Loc) (q : Addr) (ce : Cell), va_P D vwCl ws H1 → va_D A ws → va_S A s.heap H1 locs1 → H1[q]? = some ce → ce.vm = .none → s.vm.findClass E = some ce.cls → vx_W p l e R s m args below meth c H1 locs1 (cells + 1) (slots + 6) Q (F0 m pc ls rest) q) {st0 : List Value} (hst : st0 = As.reverse ++ .ref b :: rest) : W p l e R s m args below meth c H locs cells slots Q (F0 m pc ls st0) := by
  have hCf : isC.filterMap (fun i => ws[i]?) = wc := kFm _ _ _ hC
  have hPc := hP.sub isC hCf
  have hDc := hD.sub isC hnC hC
  have hFc := va_free hD hS hA isC hC
  subst hst
  refine vx_callv (vx_runV (As := As) (rest := rest) S (hM H.size) cw ⟨kPreG_blind, va_recv hK hPc hc he, fun U hU hW => ⟨rfl, ⟨by rw [hU], by rw [hU]; exact hPc, va_K.moved hW.alike hK, hDc.weaken (fun _ _ _ _ => trivial)⟩, hG.tr hW (fun a h1 h2 => by rw [hU]; exact hS.2.1 a h1 h2) hFc⟩⟩ rfl hAs hsize rfl (lv_room hW) hdg hf) hS (fun q _ h => hFc q h) hFc (fun q _ h => hFc q h) (fun E1 ce q9 u t H1 locs1 ht hvm hp hB hz1 hk1 hS1 hce hcv hcl => ?_) (fun u t H1 locs1 ht hvm hw _ _ _ _ => hw.elim)
  obtain ⟨rfl, hP1, hK1, hD1⟩ := hB
  rw [ht] at hP1
  obtain ⟨hP2, hD2⟩ := va_join hP hD isC isR hC hR hn hdis hk1 hFc hP1 hD1
  have hpf : perm.filterMap (fun i => (wr ++ wc)[i]?) = ws := kFm _ _ _ hpm
  exact kk H1 locs1 q9 ce (hP2.sub perm hpf) (hD2.sub perm hnp hpm) hS1 hce hcv hcl
/-- a static call of a method that catches -/
theorem kCallSW {r : Int32} {mc ms : Nat} {hh : List (Nat × Nat × Nat × Nat)} (hG : kG nd A s) (S : CallFix p m c cc nL s args Ts own) (hM : kIW nd l y wy rm D tys As wc w1 r mc ms) (cw : vx_CSW R s args own index y bytes maxL ret hh wy rm mc ms n)
    (hK : va_K D vwCl tys s) (hP : va_P D vwCl ws H) (hD : va_D A ws) (hS : va_S A s.heap H locs) (hA : ∀ q, s.heap.size ≤ q → A q) (isC isR perm : List Nat)
    (hC : isC.map (fun i => ws[i]?) = wc.map some) (hnC : va_nd isC = true) (hR : isR.map (fun i => ws[i]?) = wr.map some) (hn : va_nd isR = true) (hdis : ∀ i ∈ isR, i ∉ isC) (hpm : perm.map (fun i => (wr ++ w1)[i]?) = ws'.map some) (hnp : va_nd perm = true)
    (hAs : As.length = n) (hsize : ls.size = nL) (hW : (rest.map fun v => v.category).sum ≤ 8) (hf : cells + mc ≤ R.cells ∧ slots + ms ≤ R.slots) (hdg : decode cc pc = .ok (.invokestatic index, 3))
    (kk : ∀ (H1 : Heap) (locs1 : List Loc), va_P D vwCl ws' H1 → va_D A ws' → va_S A s.heap H1 locs1 → W p l e R s m args below meth c H1 locs1 (cells + mc) (slots + ms) Q (F0 m (pc + 3) ls (.int r :: rest))) {st0 : List Value} (hst : st0 = As.reverse ++ rest) : W p l e R s m args below meth c H locs cells slots Q (F0 m pc ls st0) := by
  have hCf : isC.filterMap (fun i => ws[i]?) = wc := kFm _ _ _ hC
  have hPc := hP.sub isC hCf
  have hDc := hD.sub isC hnC hC
  have hFc := va_free hD hS hA isC hC
  subst hst
  refine va_calli (vx_runSW (As := As) (rest := rest) S (hM H.size) cw ⟨kPreG_blind, fun U hU hW => ⟨rfl, ⟨by rw [hU], by rw [hU]; exact hPc, va_K.moved hW.alike hK, hDc.weaken (fun _ _ _ _ => trivial)⟩, hG.tr hW (fun a h1 h2 => by rw [hU]; exact hS.2.1 a h1 h2) hFc⟩⟩ rfl hAs hsize rfl (lv_room hW) hdg hf) hS (fun q _ h => hFc q h) hFc (fun r1 u t H1 locs1 ht hvm hw hB hz1 hk1 hS1 => ?_)
  obtain ⟨hP1, hK1, hD1⟩ := hB
  rw [ht] at hP1
  obtain ⟨hP2, hD2⟩ := va_join hP hD isC isR hC hR hn hdis hk1 hFc hP1 hD1
  have hpf : perm.filterMap (fun i => (wr ++ w1)[i]?) = ws' := kFm _ _ _ hpm
  subst hw
  exact kk H1 locs1 (hP2.sub perm hpf) (hD2.sub perm hnp hpm) hS1
/-- the constructor that makes an array of filters, called -/
theorem kCallNO {S : Type} {w1 : S → va_W} {wn : S → va_W} {mc ms c2 s2 : Nat} (hO : va_AO RX0 s) (Sx : CallFix p m c cc nL s args Ts own) (hM : kVNO S l y wy rm D tys (.ref b :: As) wc w1 mc ms) (cw : CallB R s args own index y bytes maxL none wy rm mc ms n ∧ y.name = "<init>" ∧ (Cond.instanceMethod y).before args s = true)
    (hK : va_K D vwCl tys s) (hP : va_P D vwCl ws H) (hD : va_D A ws) (hS : va_S A s.heap H locs) (hA : ∀ q, s.heap.size ≤ q → A q) (isC isR perm : List Nat)
    (hC : isC.map (fun i => ws[i]?) = wc.map some) (hnC : va_nd isC = true) (hR : isR.map (fun i => ws[i]?) = wr.map some) (hn : va_nd isR = true) (hdis : ∀ i ∈ isR, i ∉ isC) (hpm : ∀ u, perm.map (fun i => (wr ++ w1 u)[i]?) = (wn u).map some) (hnp : va_nd perm = true)
    (hAs : As.length = n) (hsize : ls.size = nL) (hW : (rest.map fun v => v.category).sum ≤ 8) (hc2 : cells + mc = c2) (hs2 : slots + ms = s2) (hf : c2 ≤ R.cells ∧ s2 ≤ R.slots) (hdg : decode cc pc = .ok (.invokespecial index, 3))
    (kk : ∀ (u : S) (H1 : Heap) (locs1 : List Loc), va_P D vwCl (wn u) H1 → va_D A (wn u) → va_S A s.heap H1 locs1 → W p l e R s m args below meth c H1 locs1 c2 s2 Q (F0 m (pc + 3) ls rest)) {st0 : List Value} (hst : st0 = As.reverse ++ .ref b :: rest) : W p l e R s m args below meth c H locs cells slots Q (F0 m pc ls st0) := by
  have hCf : isC.filterMap (fun i => ws[i]?) = wc := kFm _ _ _ hC
  have hPc := hP.sub isC hCf
  have hDc := hD.sub isC hnC hC
  have hFc := va_free hD hS hA isC hC
  subst hst; subst hc2; subst hs2
  refine va_callv (va_runI (As := As) (rest := rest) Sx (hM H.size) cw ⟨kVNO_blind, fun U hU hW => ⟨rfl, ⟨by rw [hU], by rw [hU]; exact hPc, va_K.moved hW.alike hK, hDc.weaken (fun _ _ _ _ => trivial)⟩, va_AO.moved hW.alike hO⟩⟩ rfl hAs hsize rfl (lv_room hW) hdg hf) hS (fun q _ h => hFc q h) hFc (fun u t H1 locs1 ht hvm hw hB hz1 hk1 hS1 => ?_)
  obtain ⟨hP1, hK1, hD1⟩ := hB
  rw [ht] at hP1
  obtain ⟨hP2, hD2⟩ := va_join hP hD isC isR hC hR hn hdis hk1 hFc hP1 hD1
  exact kk u H1 locs1 (hP2.sub perm (kFm _ _ _ (hpm u))) (hD2.sub perm hnp (hpm u)) hS1
end KLW
theorem kCast {nd : Nat} {A : Nat → Prop} {s : State} {args : Array Value} {E : String} (hG : kG nd A s) (hE : (E, E) ∈ kCs) : (Cond.castable E E).before args s = true := (hG.2.2.2.2.2.1 _ hE).use rfl
