/-! jump: the two ways give the same -/
theorem sg_turn {x : Int32} (hb : isB x) (h : cSg x = 0) : rEnd (x ^^^ 255) = 0 := by
  obtain ⟨k, hk, rfl⟩ := isB_n hb
  exact sg_x k hk h
/-- the second target ends no turn: the byte looked at is the byte that came in, turned round -/
theorem tt_24 {en a b c d y : Int32} (ha : isB a) (hb : isB b) (hc : isB c) (hd : isB d) (h : cSg c = 0) :
    rEnd ((rMd en (rMd en (((a ||| b <<< ((8 : Int32) &&& 31)) ||| c <<< ((16 : Int32) &&& 31)) ||| d <<< ((24 : Int32) &&& 31)) y ^^^ 16777215) y >>> ((16 : Int32) &&& 31)) &&& 255) = 0 := by
  rw [bE16 (fun i hi => tw_bit (tw_24 en _ y) hi), bL16 a b c d ha hb hc hd]
  exact sg_turn hc h
theorem tt_16 {en a b c d y : Int32} (ha : isB a) (hb : isB b) (hc : isB c) (hd : isB d) (h : cSg b = 0) :
    rEnd ((rMd en (rMd en (((a ||| b <<< ((8 : Int32) &&& 31)) ||| c <<< ((16 : Int32) &&& 31)) ||| d <<< ((24 : Int32) &&& 31)) y ^^^ 65535) y >>> ((8 : Int32) &&& 31)) &&& 255) = 0 := by
  rw [bE8 (fun i hi => tw_bit (tw_16 en _ y) hi), bL8 a b c d ha hb hc hd]
  exact sg_turn hb h
theorem tt_8 {en a b c d y : Int32} (ha : isB a) (hb : isB b) (hc : isB c) (hd : isB d) (h : cSg a = 0) :
    rEnd ((rMd en (rMd en (((a ||| b <<< ((8 : Int32) &&& 31)) ||| c <<< ((16 : Int32) &&& 31)) ||| d <<< ((24 : Int32) &&& 31)) y ^^^ 255) y >>> ((0 : Int32) &&& 31)) &&& 255) = 0 := by
  rw [bE0 (fun i hi => tw_bit (tw_8 en _ y) hi), bL0 a b c d ha hb hc hd]
  exact sg_turn ha h
/-- what the model puts, by its mask -/
def jT (en k x y : Int32) : Int32 := if k = 0 then rMd en x y else if rEnd ((rMd en x y >>> (((24 - (8 * (rIx (k >>> ((1 : Int32) &&& 31))))) : Int32) &&& 31)) &&& 255) = 0 then rMd en x y else rMd en (rMd en x y ^^^ (rMs (rIx (k >>> ((1 : Int32) &&& 31))))) y
/-- the byte that the second target shows is no sign byte -/
def jE (en k x y : Int32) : Prop := ¬ k = 0 → rEnd ((rMd en (rMd en x y ^^^ (rMs (rIx (k >>> ((1 : Int32) &&& 31))))) y >>> (((24 - (8 * (rIx (k >>> ((1 : Int32) &&& 31))))) : Int32) &&& 31)) &&& 255) = 0
theorem cMd_fun : cMd = rMd := rfl
theorem cSg_fun : cSg = rEnd := rfl
theorem cTl_one {en y be b8 tr t : Int32} (e8 : be - 8 = b8) (h : rEnd ((kU (rMd en (t ^^^ tr) y) b8) &&& 255) = 0) (K : Nat) :
    cTl en y be tr (K + 2) t = if rEnd ((kU t b8) &&& 255) = 0 then t else rMd en (t ^^^ tr) y := by
  have e1 : cTl en y be tr (K + 2) t = if cSg ((kU t (be - 8)) &&& 255) = 0 then t else cTl en y be tr (K + 1) (cMd en (t ^^^ tr) y) := rfl
  have e2 : cTl en y be tr (K + 1) (cMd en (t ^^^ tr) y) = if cSg ((kU (cMd en (t ^^^ tr) y) (be - 8)) &&& 255) = 0 then (cMd en (t ^^^ tr) y) else cTl en y be tr K (cMd en (cMd en (t ^^^ tr) y ^^^ tr) y) := rfl
  rw [e1, e2, e8, cSg_fun, cMd_fun, if_pos h]
theorem rIx_2 : rIx (nI 2 >>> ((1 : Int32) &&& 31)) = 1 := by decide +kernel
theorem rIx_4 : rIx (nI 4 >>> ((1 : Int32) &&& 31)) = 2 := by decide +kernel
theorem rIx_8 : rIx (nI 8 >>> ((1 : Int32) &&& 31)) = 3 := by decide +kernel
theorem rMs_1 : rMs 1 = 16777215 := by decide +kernel
theorem rMs_2 : rMs 2 = 65535 := by decide +kernel
theorem rMs_3 : rMs 3 = 255 := by decide +kernel
theorem be_2 : (32 - 8 * cKp (nI 2) : Int32) = 24 := by decide +kernel
theorem be_4 : (32 - 8 * cKp (nI 4) : Int32) = 16 := by decide +kernel
theorem be_8 : (32 - 8 * cKp (nI 8) : Int32) = 8 := by decide +kernel
theorem tu_24 : ((1 : Int32) <<< ((24 : Int32) &&& 31)) - 1 = 16777215 := by decide +kernel
theorem tu_16 : ((1 : Int32) <<< ((16 : Int32) &&& 31)) - 1 = 65535 := by decide +kernel
theorem tu_8 : ((1 : Int32) <<< ((8 : Int32) &&& 31)) - 1 = 255 := by decide +kernel
theorem jw_1 : (24 - 8 * 1 : Int32) = 16 := by decide +kernel
theorem jw_2 : (24 - 8 * 2 : Int32) = 8 := by decide +kernel
theorem jw_3 : (24 - 8 * 3 : Int32) = 0 := by decide +kernel
theorem jk_2 : (24 - 8 : Int32) = 16 := by decide +kernel
theorem jk_4 : (16 - 8 : Int32) = 8 := by decide +kernel
theorem jk_8 : (8 - 8 : Int32) = 0 := by decide +kernel
/-- the four masks that allow a number -/
theorem jT_eq {en k a b c d y : Int32} (ha : isB a) (hb : isB b) (hc : isB c) (hd : isB d) (hk : k = nI 0 ∨ (k = nI 2 ∧ cSg c = 0) ∨ (k = nI 4 ∧ cSg b = 0) ∨ (k = nI 8 ∧ cSg a = 0)) :
    jE en k (((a ||| b <<< ((8 : Int32) &&& 31)) ||| c <<< ((16 : Int32) &&& 31)) ||| d <<< ((24 : Int32) &&& 31)) y ∧ cXt en k (((a ||| b <<< ((8 : Int32) &&& 31)) ||| c <<< ((16 : Int32) &&& 31)) ||| d <<< ((24 : Int32) &&& 31)) y = jT en k (((a ||| b <<< ((8 : Int32) &&& 31)) ||| c <<< ((16 : Int32) &&& 31)) ||| d <<< ((24 : Int32) &&& 31)) y := by
  rcases hk with rfl | ⟨rfl, h⟩ | ⟨rfl, h⟩ | ⟨rfl, h⟩
  · exact ⟨fun q => absurd rfl q, rfl⟩
  · have hE := tt_24 (en := en) (y := y) ha hb hc hd h
    generalize (((a ||| b <<< ((8 : Int32) &&& 31)) ||| c <<< ((16 : Int32) &&& 31)) ||| d <<< ((24 : Int32) &&& 31)) = x at hE ⊢
    refine ⟨fun _ => by rw [rIx_2, rMs_1, jw_1]; exact hE, ?_⟩
    have e1 : cXt en (nI 2) x y = cTl en y (32 - 8 * cKp (nI 2)) ((1 <<< ((32 - 8 * cKp (nI 2)) &&& 31)) - 1) 1000 (rMd en x y) := if_neg (by decide +kernel)
    have e2 : jT en (nI 2) x y = if rEnd ((rMd en x y >>> (((24 - (8 * (rIx (nI 2 >>> ((1 : Int32) &&& 31))))) : Int32) &&& 31)) &&& 255) = 0 then rMd en x y else rMd en (rMd en x y ^^^ (rMs (rIx (nI 2 >>> ((1 : Int32) &&& 31))))) y := if_neg (by decide +kernel)
    rw [e1, e2, be_2, tu_24, rIx_2, rMs_1, jw_1, bS16]
    rw [bS16] at hE
    exact cTl_one (be := 24) (tr := 16777215) (t := rMd en x y) jk_2 hE 998
  · have hE := tt_16 (en := en) (y := y) ha hb hc hd h
    generalize (((a ||| b <<< ((8 : Int32) &&& 31)) ||| c <<< ((16 : Int32) &&& 31)) ||| d <<< ((24 : Int32) &&& 31)) = x at hE ⊢
    refine ⟨fun _ => by rw [rIx_4, rMs_2, jw_2]; exact hE, ?_⟩
    have e1 : cXt en (nI 4) x y = cTl en y (32 - 8 * cKp (nI 4)) ((1 <<< ((32 - 8 * cKp (nI 4)) &&& 31)) - 1) 1000 (rMd en x y) := if_neg (by decide +kernel)
    have e2 : jT en (nI 4) x y = if rEnd ((rMd en x y >>> (((24 - (8 * (rIx (nI 4 >>> ((1 : Int32) &&& 31))))) : Int32) &&& 31)) &&& 255) = 0 then rMd en x y else rMd en (rMd en x y ^^^ (rMs (rIx (nI 4 >>> ((1 : Int32) &&& 31))))) y := if_neg (by decide +kernel)
    rw [e1, e2, be_4, tu_16, rIx_4, rMs_2, jw_2, bS8]
    rw [bS8] at hE
    exact cTl_one (be := 16) (tr := 65535) (t := rMd en x y) jk_4 hE 998
  · have hE := tt_8 (en := en) (y := y) ha hb hc hd h
    generalize (((a ||| b <<< ((8 : Int32) &&& 31)) ||| c <<< ((16 : Int32) &&& 31)) ||| d <<< ((24 : Int32) &&& 31)) = x at hE ⊢
    refine ⟨fun _ => by rw [rIx_8, rMs_3, jw_3]; exact hE, ?_⟩
    have e1 : cXt en (nI 8) x y = cTl en y (32 - 8 * cKp (nI 8)) ((1 <<< ((32 - 8 * cKp (nI 8)) &&& 31)) - 1) 1000 (rMd en x y) := if_neg (by decide +kernel)
    have e2 : jT en (nI 8) x y = if rEnd ((rMd en x y >>> (((24 - (8 * (rIx (nI 8 >>> ((1 : Int32) &&& 31))))) : Int32) &&& 31)) &&& 255) = 0 then rMd en x y else rMd en (rMd en x y ^^^ (rMs (rIx (nI 8 >>> ((1 : Int32) &&& 31))))) y := if_neg (by decide +kernel)
    rw [e1, e2, be_8, tu_8, rIx_8, rMs_3, jw_3, bU0]
    rw [bU0] at hE
    exact cTl_one (be := 8) (tr := 255) (t := rMd en x y) jk_8 hE 998
/-- the model's arrays behind a number put -/
def jH (i : Nat) (hf : Nat → Int32) (t v : Int32) : Nat → Int32 := upd (upd (upd (upd hf (16 * i + 1) (t &&& 255)) (16 * i + 2) ((t >>> ((8 : Int32) &&& 31)) &&& 255)) (16 * i + 3) ((t >>> ((16 : Int32) &&& 31)) &&& 255)) (16 * i + 4) v
set_option maxHeartbeats 1000000 in
theorem rJ3_eq (en st : Int32) (i n nx : Nat) (hf mf gf uf nf xg lg : Nat → Int32) : ∃ v, (v = if (jT en (xg i) (rLo i 1 hf) ((st + gf i) + 5) >>> ((24 : Int32) &&& 31)) &&& 1 = 1 then 255 &&& 255 else 0 &&& 255) ∧
    rJ3 en st i n nx hf mf gf uf nf xg lg = (nI (nx + 5), rSh (jH i hf (jT en (xg i) (rLo i 1 hf) ((st + gf i) + 5)) v) (16 * i) 5 (n - 5), upd mf i (nI (n - 5)), upd gf i (gf i + nI 5), upd uf i (uf i + 1), rCp nf nx (fun k => jH i hf (jT en (xg i) (rLo i 1 hf) ((st + gf i) + 5)) v (16 * i + k)) 5, upd xg i 0, lg) := by
  refine ⟨_, rfl, ?_⟩
  by_cases c1 : xg i = 0
  · have eT : jT en (xg i) (rLo i 1 hf) ((st + gf i) + 5) = rMd en (rLo i 1 hf) ((st + gf i) + 5) := if_pos c1
    rw [eT]
    by_cases c2 : (rMd en (rLo i 1 hf) ((st + gf i) + 5) >>> ((24 : Int32) &&& 31)) &&& 1 = 1
    · rw [if_pos c2]; exact (if_pos c1).trans (if_pos c2)
    · rw [if_neg c2]; exact (if_pos c1).trans (if_neg c2)
  · by_cases c3 : rEnd ((rMd en (rLo i 1 hf) ((st + gf i) + 5) >>> (((24 - (8 * (rIx (xg i >>> ((1 : Int32) &&& 31))))) : Int32) &&& 31)) &&& 255) = 0
    · have eT : jT en (xg i) (rLo i 1 hf) ((st + gf i) + 5) = rMd en (rLo i 1 hf) ((st + gf i) + 5) := (if_neg c1).trans (if_pos c3)
      rw [eT]
      by_cases c2 : (rMd en (rLo i 1 hf) ((st + gf i) + 5) >>> ((24 : Int32) &&& 31)) &&& 1 = 1
      · rw [if_pos c2]; exact (if_neg c1).trans ((if_pos c3).trans (if_pos c2))
      · rw [if_neg c2]; exact (if_neg c1).trans ((if_pos c3).trans (if_neg c2))
    · have eT : jT en (xg i) (rLo i 1 hf) ((st + gf i) + 5) = rMd en (rMd en (rLo i 1 hf) ((st + gf i) + 5) ^^^ (rMs (rIx (xg i >>> ((1 : Int32) &&& 31))))) ((st + gf i) + 5) := (if_neg c1).trans (if_neg c3)
      rw [eT]
      by_cases c2 : (rMd en (rMd en (rLo i 1 hf) ((st + gf i) + 5) ^^^ (rMs (rIx (xg i >>> ((1 : Int32) &&& 31))))) ((st + gf i) + 5) >>> ((24 : Int32) &&& 31)) &&& 1 = 1
      · rw [if_pos c2]; exact (if_neg c1).trans ((if_neg c3).trans (if_pos c2))
      · rw [if_neg c2]; exact (if_neg c1).trans ((if_neg c3).trans (if_neg c2))
