/-! the chain's world -/
def ch4 (a b c d : Nat) : Nat → Option Nat := va_up (va_up (va_up (va_up (fun _ => none) 0 (some a)) 1 (some b)) 2 (some c)) 3 (some d)
/-- a filter's state: kind, how many it holds, distance, way, place, here, given, put, MASK, LAST, the bytes that it holds, the past -/
abbrev FS : Type := Nat × Nat × Int32 × Int32 × Int32 × Int32 × Int32 × Int32 × Int32 × Int32 × (Nat → Int32) × (Nat → Int32)
abbrev fKn (F : FS) : Nat := F.1
abbrev fN (F : FS) : Nat := F.2.1
abbrev fDs (F : FS) : Int32 := F.2.2.1
abbrev fEn (F : FS) : Int32 := F.2.2.2.1
abbrev fPl (F : FS) : Int32 := F.2.2.2.2.1
abbrev fHe (F : FS) : Int32 := F.2.2.2.2.2.1
abbrev fGv (F : FS) : Int32 := F.2.2.2.2.2.2.1
abbrev fRp (F : FS) : Int32 := F.2.2.2.2.2.2.2.1
abbrev fMk (F : FS) : Int32 := F.2.2.2.2.2.2.2.2.1
abbrev fLa (F : FS) : Int32 := F.2.2.2.2.2.2.2.2.2.1
abbrev fG (F : FS) : Nat → Int32 := F.2.2.2.2.2.2.2.2.2.2.1
abbrev fPf (F : FS) : Nat → Int32 := F.2.2.2.2.2.2.2.2.2.2.2
def fRestart (F : FS) (st en : Int32) : FS := (fKn F, 0, fDs F, en, st, fHe F, 0, 0, 0, st - 5, fG F, zr (fPf F) 32)
def fNew : FS := (0, 0, 1, 1, 0, 0, 0, 0, 0, 0 - 5, (fun _ => 0), zr (fun _ => 0) 32)
/-- what the steps of a pass come to -/
def fRun (F : FS) (k : Nat) (f : Nat → Int32) : cRS := cRun (fKn F) (fEn F) (fDs F) (fN F + k) 64 (0, fPl F, fRp F, fMk F, fLa F, va_cpy f (fG F) 0 (fN F) k, fPf F)
def fPass (F : FS) (k : Nat) (f : Nat → Int32) : FS :=
  (fKn F, fN F + k - (fRun F k f).1, fDs F, fEn F, (fRun F k f).2.1, nI (fRun F k f).1, fGv F + nI (fRun F k f).1, (fRun F k f).2.2.1, (fRun F k f).2.2.2.1, (fRun F k f).2.2.2.2.1, va_cpy (fRun F k f).2.2.2.2.2.1 (fRun F k f).2.2.2.2.2.1 (fRun F k f).1 0 (fN F + k - (fRun F k f).1), (fRun F k f).2.2.2.2.2.2)
def fOutN (F : FS) (k : Nat) (f : Nat → Int32) : Nat := k - k + (fRun F k f).1
def fOutF (F : FS) (k : Nat) (f : Nat → Int32) : Nat → Int32 := va_cpy (fRun F k f).2.2.2.2.2.1 (va_cpy f f k 0 (k - k)) 0 (k - k) (fRun F k f).1
def fRest (F : FS) : FS := (fKn F, fN F - fN F, fDs F, fEn F, fPl F + nI (fN F), fHe F, fGv F + nI (fN F), fRp F, fMk F, fLa F, va_cpy (fG F) (fG F) (fN F) 0 (fN F - fN F), fPf F)
def fRestN (F : FS) (k : Nat) : Nat := k + fN F
def fRestF (F : FS) (k : Nat) (f : Nat → Int32) : Nat → Int32 := va_cpy (fG F) f 0 k (fN F)
theorem cRun_le {kn : Nat} {en ds : Int32} {N : Nat} : ∀ (K : Nat) (s : cRS), s.1 ≤ N → (cRun kn en ds N K s).1 ≤ N
  | 0, _, h => h
  | K + 1, s, h => by
    unfold cRun
    split
    · rename_i hh
      refine cRun_le K _ ?_
      obtain ⟨m, e1, e2, e3⟩ := cStep_many kn en s.2.1 ds s.2.2.1 s.2.2.2.1 s.2.2.2.2.1 s.1 s.2.2.2.2.2.1 s.2.2.2.2.2.2
      have := cNeed_le kn
      show s.1 + _ ≤ N
      rw [e1, nI_clamp (by omega)]
      omega
    · exact h
theorem fRun_le (F : FS) (k : Nat) (f : Nat → Int32) : (fRun F k f).1 ≤ fN F + k := cRun_le _ _ (Nat.zero_le _)
section KB
variable {p : Program} {l : Launch} {e : Env} {R : Room} {s : State} {m : MethodId} {args : Array Value} {below : List Frame} {meth : Method} {c : Code} {H : Heap} {locs : List Loc} {cells slots : Nat} {Q : State → Prop}
variable {cc : ByteArray} {pc : Nat} {ls : Array Slot} {rest : List Value} {D : va_G} {tys : List (ClassId × FieldType)} {A : Nat → Prop} {H0 : Heap} {ws : va_W} {a nd : Nat}
/-- a reference out of an array -/
theorem kAald (hx : p.tables.exec = Jvm.exec) (hb : c.code = cc) (hK : va_K D vwCl tys s) (hP : va_P D vwCl ws H) (q0 t0 : Nat) {cA : ClassId} {C : String} {n : Nat} {f : Nat → Option Nat} (ha : ws[q0]? = some (a, .inl (cA, n, .inr (.inr (.inr (.inr f)))))) (ht : tys[t0]? = some (cA, .object C)) {i : Int32} {k b : Nat} (hi : i = nI k) (hk : k < n) (hn : n < 2 ^ 31) (hv : f k = some b) (hdg : decode cc pc = .ok (.aaload, 1))
    (kk : W p l e R s m args below meth c H locs cells slots Q (F0 m (pc + 1) ls (.ref b :: rest))) : W p l e R s m args below meth c H locs cells slots Q (F0 m pc ls (.int i :: .ref a :: rest)) := by
  subst hi
  refine va_aldq hx hb hK hP q0 t0 ha ht (vp_in_nI hk hn) hdg ?_
  rw [nI_clamp (by omega), hv]
  exact kk
end KB
/-- a constructor that makes an array of filters -/
def kVNO (S : Type) (l : Launch) (y : MethodName) (wy : List Cond) (rm : Room) (D : va_G) (tys : List (ClassId × FieldType)) (av : List Value) (w0 : va_W) (w1 : S → va_W) (mc ms : Nat) : Prop :=
  ∀ sz : Nat, Met l y wy rm (va_Pc av (fun U => kPre D tys w0 sz U ∧ va_AO RX0 U)) (va_Qv (fun (_ : S) => True) (fun u t => kAt D tys (va_A w0 sz) (w1 u) t) (va_A w0 sz)) mc ms (va_A w0 sz)
theorem kVNO_blind {D : va_G} {tys : List (ClassId × FieldType)} {w0 : va_W} {sz : Nat} {av : List Value} : FrameBlind (va_Pc av (fun U => kPre D tys w0 sz U ∧ va_AO RX0 U)) := by
  intro a U g mk q
  obtain ⟨q0, ⟨q1, qP, qK, qD⟩, qO⟩ := q
  exact ⟨q0, ⟨q1, qP, va_K.moved (u := U) (U := U.calling g mk a) (Vm.Alike.refl U.vm) qK, qD⟩, va_AO.moved (u := U) (U := U.calling g mk a) (Vm.Alike.refl U.vm) qO⟩
theorem kVNO_of {S : Type} {mc ms : Nat} {l : Launch} {y : MethodName} {wy wy' : List Cond} {rm : Room} {D : va_G} {tys : List (ClassId × FieldType)} {av : List Value} {w0 : va_W} {w1 : S → va_W} {cc : ByteArray} {nL : Nat} {own : String} {lv : List (Nat × Value)}
    (hy : plainName y.cls = true) (ho : y.cls = own) (hw : wy = Cond.code y cc nL none :: wy') (hlen : (lg_sl av).length ≤ nL) (hlv : lv_args 0 av = lv)
    (body : ∀ (p : Program) (e : Env) (s : State) (m : MethodId) (args : Array Value) (below : List Frame) (meth : Method) (c : Code) (A : Nat → Prop) (ls : Array Slot) (Q : State → Prop), kSt p l rm s m args meth c cc nL none wy own → va_AO RX0 s → meth.name = y.name → (∀ q : Nat, s.heap.size ≤ q → A q) →
      va_K D vwCl tys s → va_P D vwCl w0 s.heap → va_D A w0 → va_S A s.heap s.heap [] → lv_has ls nL lv →
      (∀ (u : S) (H1 : Heap) (locs1 : List Loc) (ls1 : Array Slot) (pc1 : Nat), decode cc pc1 = .ok (.return_, 1) → va_P D vwCl (w1 u) H1 → va_D A (w1 u) → va_S A s.heap H1 locs1 → W p l e rm s m args below meth c H1 locs1 mc ms Q (F0 m pc1 ls1 [])) →
      W p l e rm s m args below meth c s.heap [] 0 0 Q (F0 m 0 ls [])) : kVNO S l y wy rm D tys av w0 w1 mc ms := by
  intro sz
  refine Met.ofW (cc := cc) (maxL := nL) (ret := none) hy hw ?_
  intro p e s m args below meth c s₁ B hml hv
  obtain ⟨rfl, ⟨hsz, hP, hK, hD0⟩, hO⟩ := hv
  subst hsz
  have hD := hD0.self (sz := s.heap.size)
  have hl := lv_entry av (n := nL) hlen
  rw [lg_entry_eq]
  rw [hlv] at hl
  refine body p e s m _ below meth c _ _ _ ⟨B.exec, B.bytes, B.returns, hml, by rw [← ho]; exact findClass_of_methodNamed B.named, atoms_spec (ws := wy) B.pre, B.notSynchronized⟩ hO (name_of_methodNamed B.named B.method).1 (fun q h => Or.inr h) hK hP hD va_S.rf hl ?_
  intro u H1 locs1 ls1 pc1 hdg hP1 hD1 hS1
  exact W.vret B.exec B.bytes B.returns (fun t ht hW => ⟨⟨u, rfl, trivial, by rw [ht]; exact hP1, va_K.moved hW.alike hK, hD1⟩, hS1.F ht⟩) hS1.2.2 hdg B.notSynchronized
