/-! what the Statement gives of things that no cell of the worlds holds: the table NEEDED, Throwable's two statics, texts, words that warm up -/
def cNd (j : Nat) : Value := .int (nI (cNeed j))
abbrev kE1 : String := "java/lang/IllegalArgumentException"
abbrev kE2 : String := "java/lang/IllegalStateException"
abbrev kE3 : String := "java/lang/IndexOutOfBoundsException"
def kCs : List (String × String) := [(kE1, kE1), (kE2, kE2), (kE3, kE3)]
def kDs : List MethodName := [Bundle.initS "java/lang/RuntimeException", Bundle.initS "java/lang/Exception", Bundle.initS Bundle.tN]
def kSs : List (Nat × String) := [(34, "no such filter"), (39, "no such kind"), (41, "no such distance"), (54, "not 0 to 16 bytes"), (61, "finished"), (66, "too many bytes"), (101, "no such count"), (105, "not all four bytes are there")]
def kFs : List (Nat × String × String) := [(83, "kind", "I"), (86, "distance", "I"), (89, "held", "LBranchFilters$Row;"), (92, "given", "I"), (95, "replaced", "I"), (98, "mask", "I")]
def kN (U : State) : Prop := (∀ q ∈ kFs, va_Nw (.fieldLinkNest RX2 q.1 RX0 q.2.1 q.2.2 RX2) U) ∧ (∀ q ∈ kCs, va_Nw (.castable q.1 q.2) U) ∧ (∀ q ∈ kDs, va_Nw (.declares q) U) ∧ (∀ q ∈ kSs, ∃ sa, vk_R RX2 q.1 q.2 sa U) ∧ va_Nc kE2 kE1 U
theorem kN.warm {s U : State} (hW : s.WarmedH U.vm) (h : kN s) : kN U :=
  ⟨fun q hq => va_Nw.warmF hW (h.1 q hq), fun q hq => va_Nw.warmC hW (h.2.1 q hq), fun q hq => va_Nw.warmD hW (h.2.2.1 q hq), fun q hq => (h.2.2.2.1 q hq).imp fun _ h => vk_R.warm hW h, h.2.2.2.2.moved hW.alike⟩
def kG (nd : Nat) (A : Nat → Prop) (U : State) : Prop :=
  va_Z RX0 "NEEDED" "[I" (.ref nd) A U U.heap ∧ va_T .int nd 8 cNd A U U.heap ∧ vx_Zq Bundle.tN "UNASSIGNED_STACK" Bundle.steD A U U.heap ∧ vx_Zq Bundle.tN "SUPPRESSED_SENTINEL" Bundle.listD A U U.heap ∧ kN U
theorem kG.tr {nd : Nat} {A B : Nat → Prop} {s U : State} (h : kG nd A s) (hW : s.WarmedH U.vm) (hk : ∀ a : Nat, a < s.heap.size → ¬ A a → U.heap[a]? = s.heap[a]?) (hAB : ∀ q, B q → A q) : kG nd B U := by
  obtain ⟨h1, h2, h3, h4, h5⟩ := h
  exact ⟨((h1.kept hk).moved hW.alike).narrow hAB, ((h2.kept hk).moved hW.alike).narrow hAB, ((h3.kept hk).moved hW.alike).narrow hAB, ((h4.kept hk).moved hW.alike).narrow hAB, h5.warm hW⟩
def kPreG (nd : Nat) (D : va_G) (tys : List (ClassId × FieldType)) (w0 : va_W) (sz : Nat) (U : State) : Prop := kPre D tys w0 sz U ∧ kG nd (va_A w0 sz) U
theorem kPreG_blind {nd : Nat} {D : va_G} {tys : List (ClassId × FieldType)} {w0 : va_W} {sz : Nat} {av : List Value} : FrameBlind (va_Pc av (kPreG nd D tys w0 sz)) := by
  intro a U g mk q
  obtain ⟨q0, ⟨q1, qP, qK, qD⟩, qG⟩ := q
  exact ⟨q0, ⟨q1, qP, va_K.moved (u := U) (U := U.calling g mk a) (Vm.Alike.refl U.vm) qK, qD⟩, qG.tr (State.WarmedH.refl U) (fun _ _ _ => rfl) (fun _ h => h)⟩
/-- a void method that makes nothing, over the given things -/
def kVG (nd : Nat) (l : Launch) (y : MethodName) (wy : List Cond) (rm : Room) (D : va_G) (tys : List (ClassId × FieldType)) (av : List Value) (w0 w1 : va_W) : Prop :=
  ∀ sz : Nat, Met l y wy rm (va_Pc av (kPreG nd D tys w0 sz)) (va_Qv (fun (_ : Unit) => True) (fun _ t => kAt D tys (va_A w0 sz) w1 t) (va_A w0 sz)) 0 0 (va_A w0 sz)
theorem kVG_of {nd : Nat} {l : Launch} {y : MethodName} {wy wy' : List Cond} {rm : Room} {D : va_G} {tys : List (ClassId × FieldType)} {av : List Value} {w0 w1 : va_W} {cc : ByteArray} {nL : Nat} {own : String} {lv : List (Nat × Value)}
    (hy : plainName y.cls = true) (ho : y.cls = own) (hw : wy = Cond.code y cc nL none :: wy') (hlen : (lg_sl av).length ≤ nL) (hlv : lv_args 0 av = lv)
    (body : ∀ (p : Program) (e : Env) (s : State) (m : MethodId) (args : Array Value) (below : List Frame) (meth : Method) (c : Code) (A : Nat → Prop) (ls : Array Slot) (Q : State → Prop), kSt p l rm s m args meth c cc nL none wy own → (∀ q : Nat, s.heap.size ≤ q → A q) → kG nd A s →
      va_K D vwCl tys s → va_P D vwCl w0 s.heap → va_D A w0 → va_S A s.heap s.heap [] → lv_has ls nL lv →
      (∀ (H1 : Heap) (locs1 : List Loc) (ls1 : Array Slot) (pc1 : Nat), decode cc pc1 = .ok (.return_, 1) → va_P D vwCl w1 H1 → va_D A w1 → va_S A s.heap H1 locs1 → W p l e rm s m args below meth c H1 locs1 0 0 Q (F0 m pc1 ls1 [])) →
      W p l e rm s m args below meth c s.heap [] 0 0 Q (F0 m 0 ls [])) : kVG nd l y wy rm D tys av w0 w1 := by
  intro sz
  refine Met.ofW (cc := cc) (maxL := nL) (ret := none) hy hw ?_
  intro p e s m args below meth c s₁ B hml hv
  obtain ⟨rfl, ⟨hsz, hP, hK, hD0⟩, hG⟩ := hv
  subst hsz
  have hD := hD0.self (sz := s.heap.size)
  have hl := lv_entry av (n := nL) hlen
  rw [lg_entry_eq]
  rw [hlv] at hl
  refine body p e s m _ below meth c _ _ _ ⟨B.exec, B.bytes, B.returns, hml, by rw [← ho]; exact findClass_of_methodNamed B.named, atoms_spec (ws := wy) B.pre, B.notSynchronized⟩ (fun q h => Or.inr h) hG hK hP hD va_S.rf hl ?_
  intro H1 locs1 ls1 pc1 hdg hP1 hD1 hS1
  exact W.vret B.exec B.bytes B.returns (fun t ht hW => ⟨⟨(), rfl, trivial, by rw [ht]; exact hP1, va_K.moved hW.alike hK, hD1⟩, hS1.F ht⟩) hS1.2.2 hdg B.notSynchronized
section KG
variable {p : Program} {l : Launch} {e : Env} {R : Room} {s : State} {m : MethodId} {args : Array Value} {below : List Frame} {meth : Method} {c : Code} {H : Heap} {locs : List Loc} {cells slots : Nat} {Q : State → Prop}
variable {cc : ByteArray} {pc : Nat} {ls : Array Slot} {rest : List Value} {D : va_G} {tys : List (ClassId × FieldType)} {A : Nat → Prop} {ws : va_W} {a nd : Nat}
variable {wc wr w1 ws' : va_W} {y : MethodName} {bytes : ByteArray} {maxL nL n index ci : Nat} {ret : Option FieldType} {wy Ts : List Cond} {rm : Room} {own C : String} {b : Addr} {As : List Value} {fs : List Value} {T : u_T} {N : Nat}
theorem kCallVG (hG : kG nd A s) (S : CallFix p m c cc nL s args Ts own) (hM : kVG nd l y wy rm D tys (.ref b :: As) wc w1) (cw : CallW R s args own C index y bytes maxL ret wy rm 0 0 n)
    (hK : va_K D vwCl tys s) (hP : va_P D vwCl ws H) (hD : va_D A ws) (hS : va_S A s.heap H locs) (hA : ∀ q, s.heap.size ≤ q → A q) (isC isR perm : List Nat)
    (hC : isC.map (fun i => ws[i]?) = wc.map some) (hnC : va_nd isC = true) (hR : isR.map (fun i => ws[i]?) = wr.map some) (hn : va_nd isR = true) (hdis : ∀ i ∈ isR, i ∉ isC) (hpm : perm.map (fun i => (wr ++ w1)[i]?) = ws'.map some) (hnp : va_nd perm = true)
    (hc : vwCl[ci]? = some (C, T, N)) (he : wc[0]? = some (b, .inr (ci, fs))) (hAs : As.length = n) (hsize : ls.size = nL) (hW : (rest.map fun v => v.category).sum ≤ 8) (hf : cells ≤ R.cells ∧ slots ≤ R.slots) (hdg : decode cc pc = .ok (.invokevirtual index, 3))
    (kk : ∀ (H1 : Heap) (locs1 : List Loc), va_P D vwCl ws' H1 → va_D A ws' → va_S A s.heap H1 locs1 → W p l e R s m args below meth c H1 locs1 cells slots Q (F0 m (pc + 3) ls rest)) {st0 : List Value} (hst : st0 = As.reverse ++ .ref b :: rest) : W p l e R s m args below meth c H locs cells slots Q (F0 m pc ls st0) := by
  have hCf : isC.filterMap (fun i => ws[i]?) = wc := kFm _ _ _ hC
  have hPc := hP.sub isC hCf
  have hDc := hD.sub isC hnC hC
  have hFc := va_free hD hS hA isC hC
  subst hst
  refine va_callv (va_runV (As := As) (rest := rest) S (hM H.size) cw ⟨kPreG_blind, va_recv hK hPc hc he, fun U hU hW => ⟨rfl, ⟨by rw [hU], by rw [hU]; exact hPc, va_K.moved hW.alike hK, hDc.weaken (fun _ _ _ _ => trivial)⟩, hG.tr hW (fun a h1 h2 => by rw [hU]; exact hS.2.1 a h1 h2) hFc⟩⟩ rfl hAs hsize rfl (lv_room hW) hdg hf) hS (fun q _ h => hFc q h) hFc (fun u t H1 locs1 ht hvm hw hB hz1 hk1 hS1 => ?_)
  obtain ⟨hP1, hK1, hD1⟩ := hB
  rw [ht] at hP1
  obtain ⟨hP2, hD2⟩ := va_join hP hD isC isR hC hR hn hdis hk1 hFc hP1 hD1
  have hpf : perm.filterMap (fun i => (wr ++ w1)[i]?) = ws' := kFm _ _ _ hpm
  exact kk H1 locs1 (hP2.sub perm hpf) (hD2.sub perm hnp hpm) hS1
/-- the table NEEDED, asked -/
theorem kNeed (hx : p.tables.exec = Jvm.exec) (hb : c.code = cc) (hG : kG nd A s) (hS : va_S A s.heap H locs) {i : Int32} {k : Nat} (hi : i = nI k) (hk : k < 8) (hdg : decode cc pc = .ok (.iaload, 1))
    (kk : W p l e R s m args below meth c H locs cells slots Q (F0 m (pc + 1) ls (.int (nI (cNeed k)) :: rest))) : W p l e R s m args below meth c H locs cells slots Q (F0 m pc ls (.int i :: .ref nd :: rest)) := by
  subst hi
  refine va_ti hx hb hG.2.1 hS (vp_in_nI hk (by omega)) (v := .int (nI (cNeed k))) ?_ hdg kk
  rw [nI_clamp (by omega)]; rfl
end KG
theorem cNeed_le (k : Nat) : 1 ≤ cNeed k ∧ cNeed k ≤ 8 := by
  unfold cNeed; split <;> omega
theorem cStep_many (kn : Nat) (en pl ds rp mk la : Int32) (h : Nat) (g pf : Nat → Int32) : ∃ m : Nat, (cStep kn en pl ds rp mk la h g pf).1 = nI m ∧ 1 ≤ m ∧ m ≤ cNeed kn := by
  have hN := cNeed_le kn
  rcases kn with _ | _ | _ | _ | _ | _ | _ | k
  · exact ⟨1, rfl, by omega, hN.1⟩
  · refine ⟨1, ?_, by omega, hN.1⟩
    show (cDelta en pl ds h g pf).1 = nI 1
    unfold cDelta; split <;> rfl
  · show ∃ m : Nat, (cX86 en pl rp mk la h g).1 = nI m ∧ 1 ≤ m ∧ m ≤ 5
    unfold cX86
    repeat' split
    all_goals first | exact ⟨1, rfl, by omega, by omega⟩ | exact ⟨5, rfl, by omega, by omega⟩
  · show ∃ m : Nat, (cArm en pl rp h g).1 = nI m ∧ 1 ≤ m ∧ m ≤ 4
    unfold cArm
    repeat' split
    all_goals first | exact ⟨4, rfl, by omega, by omega⟩
  · show ∃ m : Nat, (cThumb en pl rp h g).1 = nI m ∧ 1 ≤ m ∧ m ≤ 4
    unfold cThumb
    repeat' split
    all_goals first | exact ⟨4, rfl, by omega, by omega⟩ | exact ⟨2, rfl, by omega, by omega⟩
  · show ∃ m : Nat, (cPower en pl rp h g).1 = nI m ∧ 1 ≤ m ∧ m ≤ 4
    unfold cPower
    repeat' split
    all_goals first | exact ⟨4, rfl, by omega, by omega⟩
  · show ∃ m : Nat, (cSparc en pl rp h g).1 = nI m ∧ 1 ≤ m ∧ m ≤ 4
    unfold cSparc
    repeat' split
    all_goals first | exact ⟨4, rfl, by omega, by omega⟩
  · show ∃ m : Nat, (cRisc en pl rp h g).1 = nI m ∧ 1 ≤ m ∧ m ≤ 8
    unfold cRisc
    repeat' split
    all_goals first | exact ⟨4, rfl, by omega, by omega⟩ | exact ⟨8, rfl, by omega, by omega⟩ | exact ⟨2, rfl, by omega, by omega⟩
